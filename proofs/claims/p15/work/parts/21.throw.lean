abbrev NSE : String := "java/util/NoSuchElementException"
abbrev NSN : List String := ["java/lang/RuntimeException", "java/lang/Exception"]
abbrev xB : List Cond := [.declares (Bundle.init0 "java/lang/RuntimeException"), .declares (Bundle.init0 "java/lang/Exception"), .declares (Bundle.init0 Bundle.tN), .castable NSE NSE]
theorem xB_tab : ∀ w ∈ xB, w.onTables = true := by decide +kernel
/-- what a throw needs of the tables, and of the heap -/
def xw (A : Nat → Prop) (U : State) (H : Heap) : Prop := (∀ (k : Nat) (w : Cond), xB[k]? = some w → va_Nw w U) ∧ vx_Zq Bundle.tN "UNASSIGNED_STACK" Bundle.steD A U H ∧ vx_Zq Bundle.tN "SUPPRESSED_SENTINEL" Bundle.listD A U H
theorem xw.warm {A : Nat → Prop} {s U : State} {H : Heap} (hW : s.WarmedH U.vm) (h : xw A s H) : xw A U H := by
  refine ⟨fun k w hw => ?_, vx_Zq.moved hW.alike h.2.1, vx_Zq.moved hW.alike h.2.2⟩
  have h1 := h.1 k w hw
  match k, hw with
  | 0, hw => cases hw; exact va_Nw.warmD hW h1
  | 1, hw => cases hw; exact va_Nw.warmD hW h1
  | 2, hw => cases hw; exact va_Nw.warmD hW h1
  | 3, hw => cases hw; exact va_Nw.warmC hW h1
  | k + 4, hw => simp [xB] at hw
theorem xw.same {A : Nat → Prop} {u U : State} {H : Heap} (hv : u.vm = U.vm) (h : xw A u H) : xw A U H :=
  have ha : u.vm.Alike U.vm := hv ▸ Vm.Alike.refl u.vm
  ⟨fun k w hw => va_Nw.same (xB_tab w (List.mem_of_getElem? hw)) hv (h.1 k w hw), vx_Zq.moved ha h.2.1, vx_Zq.moved ha h.2.2⟩
theorem xw.kept {A : Nat → Prop} {U : State} {H H1 : Heap} (h : xw A U H) (hq : ∀ a : Nat, a < H.size → ¬ A a → H1[a]? = H[a]?) : xw A U H1 := ⟨h.1, h.2.1.kept hq, h.2.2.kept hq⟩
theorem xw.narrow {A B : Nat → Prop} {U : State} {H : Heap} (h : xw A U H) (hAB : ∀ q, B q → A q) : xw B U H := ⟨h.1, h.2.1.narrow hAB, h.2.2.narrow hAB⟩
theorem xw.use {A : Nat → Prop} {U : State} {H : Heap} (h : xw A U H) {args : Array Value} : ∀ w ∈ xB, w.before args U = true := fun w hw => by
  obtain ⟨k, hk⟩ := List.getElem?_of_mem hw
  exact va_Nw.use (xB_tab w hw) (h.1 k w hk)
def cPx (D : va_G) (cI cJ : ClassId) (av : List Value) (sz : Nat) (WS : va_W) : Array Value → State → Prop := va_Pc av (fun U => cB D cI cJ sz WS U ∧ xw (va_A WS sz) U U.heap)
theorem cPx_blind {D : va_G} {cI cJ : ClassId} {av : List Value} {sz : Nat} {WS : va_W} : FrameBlind (cPx D cI cJ av sz WS) := fun a U g mk q => ⟨q.1, (cPc_blind (D := D) (cI := cI) (cJ := cJ) (av := av) (sz := sz) (WS := WS) a U g mk ⟨q.1, q.2.1⟩).2, xw.same (u := U) rfl q.2.2⟩
theorem k_prex {s : State} {H : Heap} {D : va_G} {cI cJ : ClassId} {A : Nat → Prop} {w wc : va_W} {As : List Value} {locs : List Loc} (hE : eK D cI cJ s) (hP : va_P D vwCl w H) (hD : va_D A w) (hS : va_S A s.heap H locs) (hA : ∀ q, s.heap.size ≤ q → A q) (hX : xw A s s.heap) (isC : List Nat) (hn : va_nd isC = true) (hC : isC.map (fun i => w[i]?) = wc.map some) : PreS s H (cPx D cI cJ As H.size wc) As := by
  refine ⟨cPx_blind, fun U hU hW => ?_⟩
  have h1 := (k_pre (As := As) hE hP hD isC hn hC).2 U hU hW
  have h2 : xw A s H := hX.kept (fun a h3 h4 => hS.2.1 a h3 h4)
  refine ⟨h1.1, h1.2, ?_⟩
  rw [hU]
  exact xw.warm hW (h2.narrow (va_free (wc := wc) hD hS hA isC hC))
theorem k_preVx {s : State} {H : Heap} {D : va_G} {cI cJ : ClassId} {A : Nat → Prop} {w wc : va_W} {As : List Value} {locs : List Loc} {b ci : Nat} {fs : List Value} {C : String} {T : u_T} {N : Nat} (hE : eK D cI cJ s) (hP : va_P D vwCl w H) (hD : va_D A w) (hS : va_S A s.heap H locs) (hA : ∀ q, s.heap.size ≤ q → A q) (hX : xw A s s.heap) (isC : List Nat) (hn : va_nd isC = true) (hC : isC.map (fun i => w[i]?) = wc.map some) (q0 : Nat) (he : w[q0]? = some (b, .inr (ci, fs))) (hc : vwCl[ci]? = some (C, T, N)) : PreV s H C b (cPx D cI cJ (.ref b :: As) H.size wc) As :=
  ⟨cPx_blind, va_recv hE.1 hP (ci := ci) (q0 := q0) hc he, (k_prex (As := .ref b :: As) hE hP hD hS hA hX isC hn hC).2⟩
/-- it has thrown a NoSuchElementException; the world behind it -/
abbrev xX (D : va_G) (px : va_W → Prop) (A : Nat → Prop) : String → State → State → Prop := vx_X (S := va_W) px (fun E u t => E = NSE ∧ cAt D A u t) A
/-- a body with a table of its own that returns always -/
theorem k_ofWH {l : Launch} {y : MethodName} {ws ws' : List Cond} {rm : Room} {Pc : Array Value → State → Prop} {Qc : Array Value → State → Outcome → State → Prop} {mc ms : Nat} {free : Addr → Prop} {cc : ByteArray} {maxL : Nat} {ret : Option FieldType} {hh : List (Nat × Nat × Nat × Nat)}
    (hy : plainName y.cls = true) (hw : ws = Cond.codeWith y cc maxL ret hh :: ws')
    (body : ∀ p e s m args below meth c s₁, BodyLoose p l y (headSpec ws rm) cc maxL ret e s m args below meth c s₁ → c.maxLocals = maxL → c.exceptionTable.toList = tableOf hh → Pc args s →
      W p l e (headSpec ws rm).room s m args below meth c s.heap [] 0 0 (MQ below Qc args s mc ms free) (entryFrame m args maxL)) : Met l y ws rm Pc Qc mc ms free := by
  refine MetFree.of_bodyS (code := cc) (maxLocals := maxL) (ret := ret) hy ?_ ?_
  · intro args s m h hn
    obtain ⟨m9, meth, c, hn9, h1, h2, h3, h4, -, h5, h6, -⟩ := Cond.codeWith_spec (atoms_spec (ws := ws) h _ (by rw [hw]; exact List.mem_cons_self))
    cases hn.symm.trans hn9
    exact ⟨meth, c, h1, h2, h3, h4, h5, h6⟩
  · intro p e s m args below meth c s₁ B hml hP _
    have hh0 : s₁.heap = s.heap := by rw [B.state]; rfl
    have ht : c.exceptionTable.toList = tableOf hh := vx_table (x := y) B (atoms_spec (ws := ws) B.pre _ (by rw [hw]; exact List.mem_cons_self))
    obtain ⟨t, a1, o, b1, b2, b3⟩ := body p e s m args below meth c s₁ B hml ht hP s₁ hh0 (Stand.of_body B)
    exact ⟨t, o, a1, b1, b2, ⟨b3.1, b3.2⟩⟩
theorem dX7_of_0 : decode cX7_of 0 = .ok (.aload_n 0, 1) := by decide +kernel
theorem dX7_of_1 : decode cX7_of 1 = .ok (.iload_n 1, 1) := by decide +kernel
theorem dX7_of_2 : decode cX7_of 2 = .ok (.invokevirtual 74, 3) := by decide +kernel
theorem dX7_of_5 : decode cX7_of 5 = .ok (.ifCond .ne 11, 3) := by decide +kernel
theorem dX7_of_8 : decode cX7_of 8 = .ok (.new 128, 3) := by decide +kernel
theorem dX7_of_11 : decode cX7_of 11 = .ok (.dup, 1) := by decide +kernel
theorem dX7_of_12 : decode cX7_of 12 = .ok (.invokespecial 130, 3) := by decide +kernel
theorem dX7_of_15 : decode cX7_of 15 = .ok (.athrow, 1) := by decide +kernel
theorem dX7_of_16 : decode cX7_of 16 = .ok (.iload_n 2, 1) := by decide +kernel
theorem dX7_of_17 : decode cX7_of 17 = .ok (.bipush 20, 2) := by decide +kernel
theorem dX7_of_19 : decode cX7_of 19 = .ok (.bipush 27, 2) := by decide +kernel
theorem dX7_of_21 : decode cX7_of 21 = .ok (.invokestatic 47, 3) := by decide +kernel
theorem dX7_of_24 : decode cX7_of 24 = .ok (.ifCond .eq 21, 3) := by decide +kernel
theorem dX7_of_27 : decode cX7_of 27 = .ok (.aload_n 0, 1) := by decide +kernel
theorem dX7_of_28 : decode cX7_of 28 = .ok (.getfield 20, 3) := by decide +kernel
theorem dX7_of_31 : decode cX7_of 31 = .ok (.getfield 94, 3) := by decide +kernel
theorem dX7_of_34 : decode cX7_of 34 = .ok (.iload_n 1, 1) := by decide +kernel
theorem dX7_of_35 : decode cX7_of 35 = .ok (.bipush 8, 2) := by decide +kernel
theorem dX7_of_37 : decode cX7_of 37 = .ok (.imul, 1) := by decide +kernel
theorem dX7_of_38 : decode cX7_of 38 = .ok (.iload_n 2, 1) := by decide +kernel
theorem dX7_of_39 : decode cX7_of 39 = .ok (.iadd, 1) := by decide +kernel
theorem dX7_of_40 : decode cX7_of 40 = .ok (.bipush 20, 2) := by decide +kernel
theorem dX7_of_42 : decode cX7_of 42 = .ok (.isub, 1) := by decide +kernel
theorem dX7_of_43 : decode cX7_of 43 = .ok (.iaload, 1) := by decide +kernel
theorem dX7_of_44 : decode cX7_of 44 = .ok (.ireturn, 1) := by decide +kernel
theorem dX7_of_45 : decode cX7_of 45 = .ok (.iload_n 2, 1) := by decide +kernel
theorem dX7_of_46 : decode cX7_of 46 = .ok (.tableswitch 190 0 10 #[58, 68, 78, 88, 98, 108, 118, 128, 142, 166, 176], 58) := by decide +kernel
theorem dX7_of_104 : decode cX7_of 104 = .ok (.aload_n 0, 1) := by decide +kernel
theorem dX7_of_105 : decode cX7_of 105 = .ok (.getfield 20, 3) := by decide +kernel
theorem dX7_of_108 : decode cX7_of 108 = .ok (.getfield 59, 3) := by decide +kernel
theorem dX7_of_111 : decode cX7_of 111 = .ok (.iload_n 1, 1) := by decide +kernel
theorem dX7_of_112 : decode cX7_of 112 = .ok (.iaload, 1) := by decide +kernel
theorem dX7_of_113 : decode cX7_of 113 = .ok (.ireturn, 1) := by decide +kernel
theorem dX7_of_114 : decode cX7_of 114 = .ok (.aload_n 0, 1) := by decide +kernel
theorem dX7_of_115 : decode cX7_of 115 = .ok (.getfield 20, 3) := by decide +kernel
theorem dX7_of_118 : decode cX7_of 118 = .ok (.getfield 62, 3) := by decide +kernel
theorem dX7_of_121 : decode cX7_of 121 = .ok (.iload_n 1, 1) := by decide +kernel
theorem dX7_of_122 : decode cX7_of 122 = .ok (.iaload, 1) := by decide +kernel
theorem dX7_of_123 : decode cX7_of 123 = .ok (.ireturn, 1) := by decide +kernel
theorem dX7_of_124 : decode cX7_of 124 = .ok (.aload_n 0, 1) := by decide +kernel
theorem dX7_of_125 : decode cX7_of 125 = .ok (.getfield 20, 3) := by decide +kernel
theorem dX7_of_128 : decode cX7_of 128 = .ok (.getfield 65, 3) := by decide +kernel
theorem dX7_of_131 : decode cX7_of 131 = .ok (.iload_n 1, 1) := by decide +kernel
theorem dX7_of_132 : decode cX7_of 132 = .ok (.iaload, 1) := by decide +kernel
theorem dX7_of_133 : decode cX7_of 133 = .ok (.ireturn, 1) := by decide +kernel
theorem dX7_of_134 : decode cX7_of 134 = .ok (.aload_n 0, 1) := by decide +kernel
theorem dX7_of_135 : decode cX7_of 135 = .ok (.getfield 20, 3) := by decide +kernel
theorem dX7_of_138 : decode cX7_of 138 = .ok (.getfield 68, 3) := by decide +kernel
theorem dX7_of_141 : decode cX7_of 141 = .ok (.iload_n 1, 1) := by decide +kernel
theorem dX7_of_142 : decode cX7_of 142 = .ok (.iaload, 1) := by decide +kernel
theorem dX7_of_143 : decode cX7_of 143 = .ok (.ireturn, 1) := by decide +kernel
theorem dX7_of_144 : decode cX7_of 144 = .ok (.aload_n 0, 1) := by decide +kernel
theorem dX7_of_145 : decode cX7_of 145 = .ok (.getfield 20, 3) := by decide +kernel
theorem dX7_of_148 : decode cX7_of 148 = .ok (.getfield 71, 3) := by decide +kernel
theorem dX7_of_151 : decode cX7_of 151 = .ok (.iload_n 1, 1) := by decide +kernel
theorem dX7_of_152 : decode cX7_of 152 = .ok (.iaload, 1) := by decide +kernel
theorem dX7_of_153 : decode cX7_of 153 = .ok (.ireturn, 1) := by decide +kernel
theorem dX7_of_154 : decode cX7_of 154 = .ok (.aload_n 0, 1) := by decide +kernel
theorem dX7_of_155 : decode cX7_of 155 = .ok (.getfield 20, 3) := by decide +kernel
theorem dX7_of_158 : decode cX7_of 158 = .ok (.getfield 81, 3) := by decide +kernel
theorem dX7_of_161 : decode cX7_of 161 = .ok (.iload_n 1, 1) := by decide +kernel
theorem dX7_of_162 : decode cX7_of 162 = .ok (.iaload, 1) := by decide +kernel
theorem dX7_of_163 : decode cX7_of 163 = .ok (.ireturn, 1) := by decide +kernel
theorem dX7_of_164 : decode cX7_of 164 = .ok (.aload_n 0, 1) := by decide +kernel
theorem dX7_of_165 : decode cX7_of 165 = .ok (.getfield 20, 3) := by decide +kernel
theorem dX7_of_168 : decode cX7_of 168 = .ok (.getfield 84, 3) := by decide +kernel
theorem dX7_of_171 : decode cX7_of 171 = .ok (.iload_n 1, 1) := by decide +kernel
theorem dX7_of_172 : decode cX7_of 172 = .ok (.iaload, 1) := by decide +kernel
theorem dX7_of_173 : decode cX7_of 173 = .ok (.ireturn, 1) := by decide +kernel
theorem dX7_of_174 : decode cX7_of 174 = .ok (.aload_n 0, 1) := by decide +kernel
theorem dX7_of_175 : decode cX7_of 175 = .ok (.invokevirtual 115, 3) := by decide +kernel
theorem dX7_of_178 : decode cX7_of 178 = .ok (.aload_n 0, 1) := by decide +kernel
theorem dX7_of_179 : decode cX7_of 179 = .ok (.getfield 10, 3) := by decide +kernel
theorem dX7_of_182 : decode cX7_of 182 = .ok (.getfield 131, 3) := by decide +kernel
theorem dX7_of_185 : decode cX7_of 185 = .ok (.iload_n 1, 1) := by decide +kernel
theorem dX7_of_186 : decode cX7_of 186 = .ok (.iaload, 1) := by decide +kernel
theorem dX7_of_187 : decode cX7_of 187 = .ok (.ireturn, 1) := by decide +kernel
theorem dX7_of_188 : decode cX7_of 188 = .ok (.aload_n 0, 1) := by decide +kernel
theorem dX7_of_189 : decode cX7_of 189 = .ok (.invokevirtual 115, 3) := by decide +kernel
theorem dX7_of_192 : decode cX7_of 192 = .ok (.aload_n 0, 1) := by decide +kernel
theorem dX7_of_193 : decode cX7_of 193 = .ok (.getfield 20, 3) := by decide +kernel
theorem dX7_of_196 : decode cX7_of 196 = .ok (.getfield 62, 3) := by decide +kernel
theorem dX7_of_199 : decode cX7_of 199 = .ok (.iload_n 1, 1) := by decide +kernel
theorem dX7_of_200 : decode cX7_of 200 = .ok (.iaload, 1) := by decide +kernel
theorem dX7_of_201 : decode cX7_of 201 = .ok (.aload_n 0, 1) := by decide +kernel
theorem dX7_of_202 : decode cX7_of 202 = .ok (.getfield 10, 3) := by decide +kernel
theorem dX7_of_205 : decode cX7_of 205 = .ok (.getfield 131, 3) := by decide +kernel
theorem dX7_of_208 : decode cX7_of 208 = .ok (.iload_n 1, 1) := by decide +kernel
theorem dX7_of_209 : decode cX7_of 209 = .ok (.iaload, 1) := by decide +kernel
theorem dX7_of_210 : decode cX7_of 210 = .ok (.isub, 1) := by decide +kernel
theorem dX7_of_211 : decode cX7_of 211 = .ok (.ireturn, 1) := by decide +kernel
theorem dX7_of_212 : decode cX7_of 212 = .ok (.aload_n 0, 1) := by decide +kernel
theorem dX7_of_213 : decode cX7_of 213 = .ok (.getfield 20, 3) := by decide +kernel
theorem dX7_of_216 : decode cX7_of 216 = .ok (.getfield 100, 3) := by decide +kernel
theorem dX7_of_219 : decode cX7_of 219 = .ok (.iload_n 1, 1) := by decide +kernel
theorem dX7_of_220 : decode cX7_of 220 = .ok (.iaload, 1) := by decide +kernel
theorem dX7_of_221 : decode cX7_of 221 = .ok (.ireturn, 1) := by decide +kernel
theorem dX7_of_222 : decode cX7_of 222 = .ok (.aload_n 0, 1) := by decide +kernel
theorem dX7_of_223 : decode cX7_of 223 = .ok (.invokevirtual 115, 3) := by decide +kernel
theorem dX7_of_226 : decode cX7_of 226 = .ok (.aload_n 0, 1) := by decide +kernel
theorem dX7_of_227 : decode cX7_of 227 = .ok (.getfield 10, 3) := by decide +kernel
theorem dX7_of_230 : decode cX7_of 230 = .ok (.getfield 134, 3) := by decide +kernel
theorem dX7_of_233 : decode cX7_of 233 = .ok (.iload_n 1, 1) := by decide +kernel
theorem dX7_of_234 : decode cX7_of 234 = .ok (.iaload, 1) := by decide +kernel
theorem dX7_of_235 : decode cX7_of 235 = .ok (.ireturn, 1) := by decide +kernel
theorem dX7_of_236 : decode cX7_of 236 = .ok (.new 128, 3) := by decide +kernel
theorem dX7_of_239 : decode cX7_of 239 = .ok (.dup, 1) := by decide +kernel
theorem dX7_of_240 : decode cX7_of 240 = .ok (.invokespecial 130, 3) := by decide +kernel
theorem dX7_of_243 : decode cX7_of 243 = .ok (.athrow, 1) := by decide +kernel
theorem gX7_of_X7_isPolicy : GoodIn wtX7_of (wsV RX7 74 RX7 yX7_isPolicy wtX7_isPolicy) := tb_good (tb_v0 wd_186 wd_187 wd_188 wd_2 wd_189)
theorem gX7_of_X7_settleAll : GoodIn wtX7_of (wsV RX7 115 RX7 yX7_settleAll wtX7_settleAll) := tb_good (tb_v0 wd_275 wd_276 wd_277 wd_2 wd_278)
theorem gX7_of_X7_within : GoodIn wtX7_of (va_wsS RX7 47 yX7_within wtX7_within) := tb_good (tb_s0 wd_164 wd_165 wd_2 wd_166)
set_option maxHeartbeats 4000000 in
set_option maxRecDepth 100000 in
theorem v_X7_of (l : Launch) (hl9 : l.stackTraces = false) (D : va_G) (cI cJ : ClassId) (sz : Nat) (x x0 x1 x2 x3 x4 x5 s1 s2 s5 s6 s7 s8 s9 s10 s11 b0 b1 b2 b3 b4 b5 b6 b7 b8 b9 b10 b11 w0 w1 w2 w3 w4 w8 d0 d1 d2 wn lv np nl pn : Nat) (si4 si12 si13 bi14 wi6 p0 p1 : Int32) (B0 B1 B2 B3 B4 B6 B8 B10 B11 S5 S6 S7 S8 S9 S10 S11 W0 W1 W2 W3 W4 W8 D0 D1 : Nat → Int32) (D2 : Nat → Int64) (B5 B7 : Nat → Int32) (hwn : wn < 256) (hlv : lv ≤ 8) (hli : ∀ k, k < 10 → ∃ j : Nat, j < 8 ∧ B10 k = nI j) (hnp : np ≤ 8) (hnl : nl ≤ 10) (hpn : pn < 256) : vx_Met l yX7_of wtX7_of { frames := 6, cells := 1, slots := 6, locals := 145 } (cPx D cI cJ [.ref x, .int p0, .int p1] sz [(oX7 x x0 x1 x2 x3 x4 x5), (oX4 x1 x0 s1 s2 (nI pn) si4 s5 s6 s7 s8 s9 s10 s11 si12 si13), (oX0 x0 b0 b1 b2 b3 b4 b5 b6 b7 b8 b9 b10 b11 (nI np) (nI nl) bi14), (oX6 s1 w0 w1 w2 w3 w4 (nI wn) wi6 (nI lv) w8), (oX2 s2 d0 d1 d2), (aIc cI b0 8 B0), (aIc cI b1 8 B1), (aIc cI b2 8 B2), (aIc cI b3 8 B3), (aIc cI b4 8 B4), (aIc cI b6 8 B6), (aIc cI b8 64 B8), (aIc cI b10 10 B10), (aIc cI b11 10 B11), (aIc cI s5 8 S5), (aIc cI s6 8 S6), (aIc cI s7 8 S7), (aIc cI s8 8 S8), (aIc cI s9 8 S9), (aIc cI s10 8 S10), (aIc cI s11 8 S11), (aIc cI w0 8 W0), (aIc cI w1 8 W1), (aIc cI w2 8 W2), (aIc cI w3 8 W3), (aIc cI w4 8 W4), (aIc cI w8 8 W8), (aIc cI d0 8 D0), (aIc cI d1 8 D1), (aJc cJ d2 8 D2), (aIc cI b5 8 B5), (aIc cI b7 8 B7)]) (cQi D (fun r u => ∃ (S5p S6p S7p S8p S9p S10p S11p W1p W2p W3p W4p W8p D0p D1p : Nat → Int32) (D2p : Nat → Int64) (si12p si13p wi6p : Int32) (lvp : Nat) (W0p : Nat → Int32) (si4p : Int32) (wnp pnp : Nat), (lvp ≤ 8) ∧ (wnp < 256) ∧ (pnp < 256) ∧ u = [(oX7 x x0 x1 x2 x3 x4 x5), (oX4 x1 x0 s1 s2 (nI pnp) si4p s5 s6 s7 s8 s9 s10 s11 si12p si13p), (oX0 x0 b0 b1 b2 b3 b4 b5 b6 b7 b8 b9 b10 b11 (nI np) (nI nl) bi14), (oX6 s1 w0 w1 w2 w3 w4 (nI wnp) wi6p (nI lvp) w8), (oX2 s2 d0 d1 d2), (aIc cI b0 8 B0), (aIc cI b1 8 B1), (aIc cI b2 8 B2), (aIc cI b3 8 B3), (aIc cI b4 8 B4), (aIc cI b6 8 B6), (aIc cI b8 64 B8), (aIc cI b10 10 B10), (aIc cI b11 10 B11), (aIc cI s5 8 S5p), (aIc cI s6 8 S6p), (aIc cI s7 8 S7p), (aIc cI s8 8 S8p), (aIc cI s9 8 S9p), (aIc cI s10 8 S10p), (aIc cI s11 8 S11p), (aIc cI w0 8 W0p), (aIc cI w1 8 W1p), (aIc cI w2 8 W2p), (aIc cI w3 8 W3p), (aIc cI w4 8 W4p), (aIc cI w8 8 W8p), (aIc cI d0 8 D0p), (aIc cI d1 8 D1p), (aJc cJ d2 8 D2p), (aIc cI b5 8 B5), (aIc cI b7 8 B7)]) (va_A [(oX7 x x0 x1 x2 x3 x4 x5), (oX4 x1 x0 s1 s2 (nI pn) si4 s5 s6 s7 s8 s9 s10 s11 si12 si13), (oX0 x0 b0 b1 b2 b3 b4 b5 b6 b7 b8 b9 b10 b11 (nI np) (nI nl) bi14), (oX6 s1 w0 w1 w2 w3 w4 (nI wn) wi6 (nI lv) w8), (oX2 s2 d0 d1 d2), (aIc cI b0 8 B0), (aIc cI b1 8 B1), (aIc cI b2 8 B2), (aIc cI b3 8 B3), (aIc cI b4 8 B4), (aIc cI b6 8 B6), (aIc cI b8 64 B8), (aIc cI b10 10 B10), (aIc cI b11 10 B11), (aIc cI s5 8 S5), (aIc cI s6 8 S6), (aIc cI s7 8 S7), (aIc cI s8 8 S8), (aIc cI s9 8 S9), (aIc cI s10 8 S10), (aIc cI s11 8 S11), (aIc cI w0 8 W0), (aIc cI w1 8 W1), (aIc cI w2 8 W2), (aIc cI w3 8 W3), (aIc cI w4 8 W4), (aIc cI w8 8 W8), (aIc cI d0 8 D0), (aIc cI d1 8 D1), (aJc cJ d2 8 D2), (aIc cI b5 8 B5), (aIc cI b7 8 B7)] sz)) (xX D (fun u => ∃ (S5p S6p S7p S8p S9p S10p S11p W1p W2p W3p W4p W8p D0p D1p : Nat → Int32) (D2p : Nat → Int64) (si12p si13p wi6p : Int32) (lvp : Nat) (W0p : Nat → Int32) (si4p : Int32) (wnp pnp : Nat), (lvp ≤ 8) ∧ (wnp < 256) ∧ (pnp < 256) ∧ u = [(oX7 x x0 x1 x2 x3 x4 x5), (oX4 x1 x0 s1 s2 (nI pnp) si4p s5 s6 s7 s8 s9 s10 s11 si12p si13p), (oX0 x0 b0 b1 b2 b3 b4 b5 b6 b7 b8 b9 b10 b11 (nI np) (nI nl) bi14), (oX6 s1 w0 w1 w2 w3 w4 (nI wnp) wi6p (nI lvp) w8), (oX2 s2 d0 d1 d2), (aIc cI b0 8 B0), (aIc cI b1 8 B1), (aIc cI b2 8 B2), (aIc cI b3 8 B3), (aIc cI b4 8 B4), (aIc cI b6 8 B6), (aIc cI b8 64 B8), (aIc cI b10 10 B10), (aIc cI b11 10 B11), (aIc cI s5 8 S5p), (aIc cI s6 8 S6p), (aIc cI s7 8 S7p), (aIc cI s8 8 S8p), (aIc cI s9 8 S9p), (aIc cI s10 8 S10p), (aIc cI s11 8 S11p), (aIc cI w0 8 W0p), (aIc cI w1 8 W1p), (aIc cI w2 8 W2p), (aIc cI w3 8 W3p), (aIc cI w4 8 W4p), (aIc cI w8 8 W8p), (aIc cI d0 8 D0p), (aIc cI d1 8 D1p), (aJc cJ d2 8 D2p), (aIc cI b5 8 B5), (aIc cI b7 8 B7)]) (va_A [(oX7 x x0 x1 x2 x3 x4 x5), (oX4 x1 x0 s1 s2 (nI pn) si4 s5 s6 s7 s8 s9 s10 s11 si12 si13), (oX0 x0 b0 b1 b2 b3 b4 b5 b6 b7 b8 b9 b10 b11 (nI np) (nI nl) bi14), (oX6 s1 w0 w1 w2 w3 w4 (nI wn) wi6 (nI lv) w8), (oX2 s2 d0 d1 d2), (aIc cI b0 8 B0), (aIc cI b1 8 B1), (aIc cI b2 8 B2), (aIc cI b3 8 B3), (aIc cI b4 8 B4), (aIc cI b6 8 B6), (aIc cI b8 64 B8), (aIc cI b10 10 B10), (aIc cI b11 10 B11), (aIc cI s5 8 S5), (aIc cI s6 8 S6), (aIc cI s7 8 S7), (aIc cI s8 8 S8), (aIc cI s9 8 S9), (aIc cI s10 8 S10), (aIc cI s11 8 S11), (aIc cI w0 8 W0), (aIc cI w1 8 W1), (aIc cI w2 8 W2), (aIc cI w3 8 W3), (aIc cI w4 8 W4), (aIc cI w8 8 W8), (aIc cI d0 8 D0), (aIc cI d1 8 D1), (aJc cJ d2 8 D2), (aIc cI b5 8 B5), (aIc cI b7 8 B7)] sz)) 1 6 (va_A [(oX7 x x0 x1 x2 x3 x4 x5), (oX4 x1 x0 s1 s2 (nI pn) si4 s5 s6 s7 s8 s9 s10 s11 si12 si13), (oX0 x0 b0 b1 b2 b3 b4 b5 b6 b7 b8 b9 b10 b11 (nI np) (nI nl) bi14), (oX6 s1 w0 w1 w2 w3 w4 (nI wn) wi6 (nI lv) w8), (oX2 s2 d0 d1 d2), (aIc cI b0 8 B0), (aIc cI b1 8 B1), (aIc cI b2 8 B2), (aIc cI b3 8 B3), (aIc cI b4 8 B4), (aIc cI b6 8 B6), (aIc cI b8 64 B8), (aIc cI b10 10 B10), (aIc cI b11 10 B11), (aIc cI s5 8 S5), (aIc cI s6 8 S6), (aIc cI s7 8 S7), (aIc cI s8 8 S8), (aIc cI s9 8 S9), (aIc cI s10 8 S10), (aIc cI s11 8 S11), (aIc cI w0 8 W0), (aIc cI w1 8 W1), (aIc cI w2 8 W2), (aIc cI w3 8 W3), (aIc cI w4 8 W4), (aIc cI w8 8 W8), (aIc cI d0 8 D0), (aIc cI d1 8 D1), (aJc cJ d2 8 D2), (aIc cI b5 8 B5), (aIc cI b7 8 B7)] sz) := by
  refine vx_ofW (cc := cX7_of) (maxL := 3) (ret := some .int) (by decide) rfl ?_
  intro p e s m args below meth c s₁ B hml htab hv
  obtain ⟨rfl, ⟨hsz, hP, hE, hD0⟩, hXw⟩ := hv
  have hx := B.exec
  have hb := B.bytes
  have hr := B.returns
  have hlk := B.notSynchronized
  have hts := atoms_spec (ws := wtX7_of) B.pre
  have hown : s.vm.findClass RX7 = some m.cls := findClass_of_methodNamed B.named
  subst hsz
  have hD := hD0.self (sz := s.heap.size)
  generalize hAe : va_A [(oX7 x x0 x1 x2 x3 x4 x5), (oX4 x1 x0 s1 s2 (nI pn) si4 s5 s6 s7 s8 s9 s10 s11 si12 si13), (oX0 x0 b0 b1 b2 b3 b4 b5 b6 b7 b8 b9 b10 b11 (nI np) (nI nl) bi14), (oX6 s1 w0 w1 w2 w3 w4 (nI wn) wi6 (nI lv) w8), (oX2 s2 d0 d1 d2), (aIc cI b0 8 B0), (aIc cI b1 8 B1), (aIc cI b2 8 B2), (aIc cI b3 8 B3), (aIc cI b4 8 B4), (aIc cI b6 8 B6), (aIc cI b8 64 B8), (aIc cI b10 10 B10), (aIc cI b11 10 B11), (aIc cI s5 8 S5), (aIc cI s6 8 S6), (aIc cI s7 8 S7), (aIc cI s8 8 S8), (aIc cI s9 8 S9), (aIc cI s10 8 S10), (aIc cI s11 8 S11), (aIc cI w0 8 W0), (aIc cI w1 8 W1), (aIc cI w2 8 W2), (aIc cI w3 8 W3), (aIc cI w4 8 W4), (aIc cI w8 8 W8), (aIc cI d0 8 D0), (aIc cI d1 8 D1), (aJc cJ d2 8 D2), (aIc cI b5 8 B5), (aIc cI b7 8 B7)] s.heap.size = A at hD hXw ⊢
  have hA : ∀ q : Nat, s.heap.size ≤ q → A q := fun q h => by rw [← hAe]; exact Or.inr h
  have hS : va_S A s.heap s.heap [] := va_S.rf
  have hl := lv_entry [.ref x, .int p0, .int p1] (n := 3) (Nat.le_of_ble_eq_true rfl)
  rw [lg_entry_eq]
  generalize (lg_sl [.ref x, .int p0, .int p1] ++ List.replicate (3 - (lg_sl [.ref x, .int p0, .int p1]).length) Slot.unset).toArray = ls at hl ⊢
  have hl : lv_has ls 3 [(0, .ref x), (1, .int p0), (2, .int p1)] := hl
  have hiX7 : ∀ w ∈ u_ws RX7 TX7 6, w ∈ wtX7_of := fun w h => List.mem_cons_of_mem _ (iuX7 w h)
  have hiX0 : ∀ w ∈ u_ws RX0 TX0 15, w ∈ wtX7_of := fun w h => List.mem_cons_of_mem _ (iuX0 w h)
  have hiX4 : ∀ w ∈ u_ws RX4 TX4 14, w ∈ wtX7_of := fun w h => List.mem_cons_of_mem _ (iuX4 w h)
  refine lv_aload_n hx hb dX7_of_0 rfl (lv_at hl 0 rfl) ?_
  refine lv_iload_n hx hb dX7_of_1 rfl (lv_at hl 1 rfl) ?_
  refine k_iS (va_runV (As := [.int p0]) (rest := []) ⟨hx, hb, hml, hown, hts⟩ (m_X7_isPolicy l D cI cJ (s.heap).size x x0 x1 x2 x3 x4 x5 b0 b1 b2 b3 b4 b5 b6 b7 b8 b9 b10 b11 (nI np) (nI nl) bi14 p0) (cwV 1 hts gX7_of_X7_isPolicy rfl rfl rfl (by decide +kernel) ⟨Nat.le_of_ble_eq_true rfl, Nat.le_of_ble_eq_true rfl⟩) (k_preV hE hP hD [0, 2] (by decide +kernel) rfl 0 rfl rfl) rfl rfl hl.1 rfl (lv_room (Nat.le_of_ble_eq_true rfl)) dX7_of_2 ⟨Nat.le_of_ble_eq_true rfl, Nat.le_of_ble_eq_true rfl⟩) hP hD hS hA [0, 2] rfl (fun _ _ h9 => h9.2) (fun r1 H locs hw2 hP hD hS => ?_)
  obtain ⟨hw2, -⟩ := hw2
  refine lv_if_ne (tgt := 16) hx hb dX7_of_5 (by decide) (fun c3 => ?_) (fun c3 => ?_)
  · skip
    have hc3 : 0 ≤ p0 ∧ p0 ≤ (nI np) - 1 := bz_1 hw2 c3
    obtain ⟨pj, hpj, epj⟩ := wi_n (by omega) hc3
    rw [epj] at hl
    refine lv_iload_n hx hb dX7_of_16 rfl (lv_at hl 2 rfl) ?_
    refine lv_bipush (v := 20) hx hb dX7_of_17 (by decide) ?_
    refine lv_bipush (v := 27) hx hb dX7_of_19 (by decide) ?_
    refine k_iS (va_runS (As := [.int p1, .int 20, .int 27]) (rest := []) ⟨hx, hb, hml, hown, hts⟩ (m_X7_within l D cI cJ H.size p1 20 27) (va_cwS 3 hts gX7_of_X7_within rfl rfl rfl (by decide +kernel) ⟨Nat.le_of_ble_eq_true rfl, Nat.le_of_ble_eq_true rfl⟩) (k_pre hE hP hD [] (by decide +kernel) rfl) rfl rfl hl.1 rfl (lv_room (Nat.le_of_ble_eq_true rfl)) dX7_of_21 ⟨Nat.le_of_ble_eq_true rfl, Nat.le_of_ble_eq_true rfl⟩) hP hD hS hA [] rfl (fun _ _ h9 => h9.2) (fun r4 H locs hw5 hP hD hS => ?_)
    obtain ⟨hw5, -⟩ := hw5
    refine lv_if_eq (tgt := 45) hx hb dX7_of_24 (by decide) (fun c6 => ?_) (fun c6 => ?_)
    · skip
      have hc6 : ¬ (20 ≤ p1 ∧ p1 ≤ 27) := bz_0 hw5 c6
      refine lv_iload_n hx hb dX7_of_45 rfl (lv_at hl 2 rfl) ?_
      by_cases c7 : p1 = 0
      · skip
        refine lv_tableIn (tgt := 104) hx hb dX7_of_46 (by rw [c7]; decide) (by rw [c7]; decide) (off := 58) (by rw [c7]; rfl) (by decide) ?_
        refine lv_aload_n hx hb dX7_of_104 rfl (lv_at hl 0 rfl) ?_
        refine va_get (D := D) (ci := 7) (v := .ref x0) (C := RX7) (T := TX7) (N := 6) hx hb hts hiX7 hown hE.1 hP 0 rfl rfl 0 (by decide) (hts _ (List.mem_cons_of_mem _ wd_19)) (fun _ h9 => h9) rfl dX7_of_105 ?_
        refine va_get (D := D) (ci := 0) (v := .ref b0) (C := RX0) (T := TX0) (N := 15) hx hb hts hiX0 hown hE.1 hP 2 rfl rfl 0 (by decide) (hts _ (List.mem_cons_of_mem _ wd_159)) (fun _ h9 => h9) rfl dX7_of_108 ?_
        refine lv_iload_n hx hb dX7_of_111 rfl (lv_at hl 1 rfl) ?_
        refine va_iald hx hb hE.1 hP 5 0 rfl rfl (vp_in_nI (n := pj) (by omega) (by decide)) dX7_of_112 ?_
        refine lv_topi (fun v8 ev8 => ?_)
        refine vx_ret ?_
        refine W.widen (k := 1) (n := 6) (Nat.le_of_ble_eq_true rfl) (Nat.le_of_ble_eq_true rfl) ?_
        refine k_iret (u := [(oX7 x x0 x1 x2 x3 x4 x5), (oX4 x1 x0 s1 s2 (nI pn) si4 s5 s6 s7 s8 s9 s10 s11 si12 si13), (oX0 x0 b0 b1 b2 b3 b4 b5 b6 b7 b8 b9 b10 b11 (nI np) (nI nl) bi14), (oX6 s1 w0 w1 w2 w3 w4 (nI wn) wi6 (nI lv) w8), (oX2 s2 d0 d1 d2), (aIc cI b0 8 B0), (aIc cI b1 8 B1), (aIc cI b2 8 B2), (aIc cI b3 8 B3), (aIc cI b4 8 B4), (aIc cI b6 8 B6), (aIc cI b8 64 B8), (aIc cI b10 10 B10), (aIc cI b11 10 B11), (aIc cI s5 8 S5), (aIc cI s6 8 S6), (aIc cI s7 8 S7), (aIc cI s8 8 S8), (aIc cI s9 8 S9), (aIc cI s10 8 S10), (aIc cI s11 8 S11), (aIc cI w0 8 W0), (aIc cI w1 8 W1), (aIc cI w2 8 W2), (aIc cI w3 8 W3), (aIc cI w4 8 W4), (aIc cI w8 8 W8), (aIc cI d0 8 D0), (aIc cI d1 8 D1), (aJc cJ d2 8 D2), (aIc cI b5 8 B5), (aIc cI b7 8 B7)]) hx hb hr hlk hP hD hS dX7_of_113 ?_
        exact ⟨S5, S6, S7, S8, S9, S10, S11, W1, W2, W3, W4, W8, D0, D1, D2, si12, si13, wi6, lv, W0, si4, wn, pn, (by omega), (by omega), (by first | omega | exact ev_lt hnp), rfl⟩
      by_cases c9 : p1 = 1
      · skip
        refine lv_tableIn (tgt := 114) hx hb dX7_of_46 (by rw [c9]; decide) (by rw [c9]; decide) (off := 68) (by rw [c9]; rfl) (by decide) ?_
        refine lv_aload_n hx hb dX7_of_114 rfl (lv_at hl 0 rfl) ?_
        refine va_get (D := D) (ci := 7) (v := .ref x0) (C := RX7) (T := TX7) (N := 6) hx hb hts hiX7 hown hE.1 hP 0 rfl rfl 0 (by decide) (hts _ (List.mem_cons_of_mem _ wd_19)) (fun _ h9 => h9) rfl dX7_of_115 ?_
        refine va_get (D := D) (ci := 0) (v := .ref b1) (C := RX0) (T := TX0) (N := 15) hx hb hts hiX0 hown hE.1 hP 2 rfl rfl 1 (by decide) (hts _ (List.mem_cons_of_mem _ wd_160)) (fun _ h9 => h9) rfl dX7_of_118 ?_
        refine lv_iload_n hx hb dX7_of_121 rfl (lv_at hl 1 rfl) ?_
        refine va_iald hx hb hE.1 hP 6 0 rfl rfl (vp_in_nI (n := pj) (by omega) (by decide)) dX7_of_122 ?_
        refine lv_topi (fun v10 ev10 => ?_)
        refine vx_ret ?_
        refine W.widen (k := 1) (n := 6) (Nat.le_of_ble_eq_true rfl) (Nat.le_of_ble_eq_true rfl) ?_
        refine k_iret (u := [(oX7 x x0 x1 x2 x3 x4 x5), (oX4 x1 x0 s1 s2 (nI pn) si4 s5 s6 s7 s8 s9 s10 s11 si12 si13), (oX0 x0 b0 b1 b2 b3 b4 b5 b6 b7 b8 b9 b10 b11 (nI np) (nI nl) bi14), (oX6 s1 w0 w1 w2 w3 w4 (nI wn) wi6 (nI lv) w8), (oX2 s2 d0 d1 d2), (aIc cI b0 8 B0), (aIc cI b1 8 B1), (aIc cI b2 8 B2), (aIc cI b3 8 B3), (aIc cI b4 8 B4), (aIc cI b6 8 B6), (aIc cI b8 64 B8), (aIc cI b10 10 B10), (aIc cI b11 10 B11), (aIc cI s5 8 S5), (aIc cI s6 8 S6), (aIc cI s7 8 S7), (aIc cI s8 8 S8), (aIc cI s9 8 S9), (aIc cI s10 8 S10), (aIc cI s11 8 S11), (aIc cI w0 8 W0), (aIc cI w1 8 W1), (aIc cI w2 8 W2), (aIc cI w3 8 W3), (aIc cI w4 8 W4), (aIc cI w8 8 W8), (aIc cI d0 8 D0), (aIc cI d1 8 D1), (aJc cJ d2 8 D2), (aIc cI b5 8 B5), (aIc cI b7 8 B7)]) hx hb hr hlk hP hD hS dX7_of_123 ?_
        exact ⟨S5, S6, S7, S8, S9, S10, S11, W1, W2, W3, W4, W8, D0, D1, D2, si12, si13, wi6, lv, W0, si4, wn, pn, (by omega), (by omega), (by first | omega | exact ev_lt hnp), rfl⟩
      by_cases c11 : p1 = 2
      · skip
        refine lv_tableIn (tgt := 124) hx hb dX7_of_46 (by rw [c11]; decide) (by rw [c11]; decide) (off := 78) (by rw [c11]; rfl) (by decide) ?_
        refine lv_aload_n hx hb dX7_of_124 rfl (lv_at hl 0 rfl) ?_
        refine va_get (D := D) (ci := 7) (v := .ref x0) (C := RX7) (T := TX7) (N := 6) hx hb hts hiX7 hown hE.1 hP 0 rfl rfl 0 (by decide) (hts _ (List.mem_cons_of_mem _ wd_19)) (fun _ h9 => h9) rfl dX7_of_125 ?_
        refine va_get (D := D) (ci := 0) (v := .ref b2) (C := RX0) (T := TX0) (N := 15) hx hb hts hiX0 hown hE.1 hP 2 rfl rfl 2 (by decide) (hts _ (List.mem_cons_of_mem _ wd_161)) (fun _ h9 => h9) rfl dX7_of_128 ?_
        refine lv_iload_n hx hb dX7_of_131 rfl (lv_at hl 1 rfl) ?_
        refine va_iald hx hb hE.1 hP 7 0 rfl rfl (vp_in_nI (n := pj) (by omega) (by decide)) dX7_of_132 ?_
        refine lv_topi (fun v12 ev12 => ?_)
        refine vx_ret ?_
        refine W.widen (k := 1) (n := 6) (Nat.le_of_ble_eq_true rfl) (Nat.le_of_ble_eq_true rfl) ?_
        refine k_iret (u := [(oX7 x x0 x1 x2 x3 x4 x5), (oX4 x1 x0 s1 s2 (nI pn) si4 s5 s6 s7 s8 s9 s10 s11 si12 si13), (oX0 x0 b0 b1 b2 b3 b4 b5 b6 b7 b8 b9 b10 b11 (nI np) (nI nl) bi14), (oX6 s1 w0 w1 w2 w3 w4 (nI wn) wi6 (nI lv) w8), (oX2 s2 d0 d1 d2), (aIc cI b0 8 B0), (aIc cI b1 8 B1), (aIc cI b2 8 B2), (aIc cI b3 8 B3), (aIc cI b4 8 B4), (aIc cI b6 8 B6), (aIc cI b8 64 B8), (aIc cI b10 10 B10), (aIc cI b11 10 B11), (aIc cI s5 8 S5), (aIc cI s6 8 S6), (aIc cI s7 8 S7), (aIc cI s8 8 S8), (aIc cI s9 8 S9), (aIc cI s10 8 S10), (aIc cI s11 8 S11), (aIc cI w0 8 W0), (aIc cI w1 8 W1), (aIc cI w2 8 W2), (aIc cI w3 8 W3), (aIc cI w4 8 W4), (aIc cI w8 8 W8), (aIc cI d0 8 D0), (aIc cI d1 8 D1), (aJc cJ d2 8 D2), (aIc cI b5 8 B5), (aIc cI b7 8 B7)]) hx hb hr hlk hP hD hS dX7_of_133 ?_
        exact ⟨S5, S6, S7, S8, S9, S10, S11, W1, W2, W3, W4, W8, D0, D1, D2, si12, si13, wi6, lv, W0, si4, wn, pn, (by omega), (by omega), (by first | omega | exact ev_lt hnp), rfl⟩
      by_cases c13 : p1 = 3
      · skip
        refine lv_tableIn (tgt := 134) hx hb dX7_of_46 (by rw [c13]; decide) (by rw [c13]; decide) (off := 88) (by rw [c13]; rfl) (by decide) ?_
        refine lv_aload_n hx hb dX7_of_134 rfl (lv_at hl 0 rfl) ?_
        refine va_get (D := D) (ci := 7) (v := .ref x0) (C := RX7) (T := TX7) (N := 6) hx hb hts hiX7 hown hE.1 hP 0 rfl rfl 0 (by decide) (hts _ (List.mem_cons_of_mem _ wd_19)) (fun _ h9 => h9) rfl dX7_of_135 ?_
        refine va_get (D := D) (ci := 0) (v := .ref b3) (C := RX0) (T := TX0) (N := 15) hx hb hts hiX0 hown hE.1 hP 2 rfl rfl 3 (by decide) (hts _ (List.mem_cons_of_mem _ wd_162)) (fun _ h9 => h9) rfl dX7_of_138 ?_
        refine lv_iload_n hx hb dX7_of_141 rfl (lv_at hl 1 rfl) ?_
        refine va_iald hx hb hE.1 hP 8 0 rfl rfl (vp_in_nI (n := pj) (by omega) (by decide)) dX7_of_142 ?_
        refine lv_topi (fun v14 ev14 => ?_)
        refine vx_ret ?_
        refine W.widen (k := 1) (n := 6) (Nat.le_of_ble_eq_true rfl) (Nat.le_of_ble_eq_true rfl) ?_
        refine k_iret (u := [(oX7 x x0 x1 x2 x3 x4 x5), (oX4 x1 x0 s1 s2 (nI pn) si4 s5 s6 s7 s8 s9 s10 s11 si12 si13), (oX0 x0 b0 b1 b2 b3 b4 b5 b6 b7 b8 b9 b10 b11 (nI np) (nI nl) bi14), (oX6 s1 w0 w1 w2 w3 w4 (nI wn) wi6 (nI lv) w8), (oX2 s2 d0 d1 d2), (aIc cI b0 8 B0), (aIc cI b1 8 B1), (aIc cI b2 8 B2), (aIc cI b3 8 B3), (aIc cI b4 8 B4), (aIc cI b6 8 B6), (aIc cI b8 64 B8), (aIc cI b10 10 B10), (aIc cI b11 10 B11), (aIc cI s5 8 S5), (aIc cI s6 8 S6), (aIc cI s7 8 S7), (aIc cI s8 8 S8), (aIc cI s9 8 S9), (aIc cI s10 8 S10), (aIc cI s11 8 S11), (aIc cI w0 8 W0), (aIc cI w1 8 W1), (aIc cI w2 8 W2), (aIc cI w3 8 W3), (aIc cI w4 8 W4), (aIc cI w8 8 W8), (aIc cI d0 8 D0), (aIc cI d1 8 D1), (aJc cJ d2 8 D2), (aIc cI b5 8 B5), (aIc cI b7 8 B7)]) hx hb hr hlk hP hD hS dX7_of_143 ?_
        exact ⟨S5, S6, S7, S8, S9, S10, S11, W1, W2, W3, W4, W8, D0, D1, D2, si12, si13, wi6, lv, W0, si4, wn, pn, (by omega), (by omega), (by first | omega | exact ev_lt hnp), rfl⟩
      by_cases c15 : p1 = 4
      · skip
        refine lv_tableIn (tgt := 144) hx hb dX7_of_46 (by rw [c15]; decide) (by rw [c15]; decide) (off := 98) (by rw [c15]; rfl) (by decide) ?_
        refine lv_aload_n hx hb dX7_of_144 rfl (lv_at hl 0 rfl) ?_
        refine va_get (D := D) (ci := 7) (v := .ref x0) (C := RX7) (T := TX7) (N := 6) hx hb hts hiX7 hown hE.1 hP 0 rfl rfl 0 (by decide) (hts _ (List.mem_cons_of_mem _ wd_19)) (fun _ h9 => h9) rfl dX7_of_145 ?_
        refine va_get (D := D) (ci := 0) (v := .ref b4) (C := RX0) (T := TX0) (N := 15) hx hb hts hiX0 hown hE.1 hP 2 rfl rfl 4 (by decide) (hts _ (List.mem_cons_of_mem _ wd_163)) (fun _ h9 => h9) rfl dX7_of_148 ?_
        refine lv_iload_n hx hb dX7_of_151 rfl (lv_at hl 1 rfl) ?_
        refine va_iald hx hb hE.1 hP 9 0 rfl rfl (vp_in_nI (n := pj) (by omega) (by decide)) dX7_of_152 ?_
        refine lv_topi (fun v16 ev16 => ?_)
        refine vx_ret ?_
        refine W.widen (k := 1) (n := 6) (Nat.le_of_ble_eq_true rfl) (Nat.le_of_ble_eq_true rfl) ?_
        refine k_iret (u := [(oX7 x x0 x1 x2 x3 x4 x5), (oX4 x1 x0 s1 s2 (nI pn) si4 s5 s6 s7 s8 s9 s10 s11 si12 si13), (oX0 x0 b0 b1 b2 b3 b4 b5 b6 b7 b8 b9 b10 b11 (nI np) (nI nl) bi14), (oX6 s1 w0 w1 w2 w3 w4 (nI wn) wi6 (nI lv) w8), (oX2 s2 d0 d1 d2), (aIc cI b0 8 B0), (aIc cI b1 8 B1), (aIc cI b2 8 B2), (aIc cI b3 8 B3), (aIc cI b4 8 B4), (aIc cI b6 8 B6), (aIc cI b8 64 B8), (aIc cI b10 10 B10), (aIc cI b11 10 B11), (aIc cI s5 8 S5), (aIc cI s6 8 S6), (aIc cI s7 8 S7), (aIc cI s8 8 S8), (aIc cI s9 8 S9), (aIc cI s10 8 S10), (aIc cI s11 8 S11), (aIc cI w0 8 W0), (aIc cI w1 8 W1), (aIc cI w2 8 W2), (aIc cI w3 8 W3), (aIc cI w4 8 W4), (aIc cI w8 8 W8), (aIc cI d0 8 D0), (aIc cI d1 8 D1), (aJc cJ d2 8 D2), (aIc cI b5 8 B5), (aIc cI b7 8 B7)]) hx hb hr hlk hP hD hS dX7_of_153 ?_
        exact ⟨S5, S6, S7, S8, S9, S10, S11, W1, W2, W3, W4, W8, D0, D1, D2, si12, si13, wi6, lv, W0, si4, wn, pn, (by omega), (by omega), (by first | omega | exact ev_lt hnp), rfl⟩
      by_cases c17 : p1 = 5
      · skip
        refine lv_tableIn (tgt := 154) hx hb dX7_of_46 (by rw [c17]; decide) (by rw [c17]; decide) (off := 108) (by rw [c17]; rfl) (by decide) ?_
        refine lv_aload_n hx hb dX7_of_154 rfl (lv_at hl 0 rfl) ?_
        refine va_get (D := D) (ci := 7) (v := .ref x0) (C := RX7) (T := TX7) (N := 6) hx hb hts hiX7 hown hE.1 hP 0 rfl rfl 0 (by decide) (hts _ (List.mem_cons_of_mem _ wd_19)) (fun _ h9 => h9) rfl dX7_of_155 ?_
        refine va_get (D := D) (ci := 0) (v := .ref b5) (C := RX0) (T := TX0) (N := 15) hx hb hts hiX0 hown hE.1 hP 2 rfl rfl 5 (by decide) (hts _ (List.mem_cons_of_mem _ wd_184)) (fun _ h9 => h9) rfl dX7_of_158 ?_
        refine lv_iload_n hx hb dX7_of_161 rfl (lv_at hl 1 rfl) ?_
        refine va_iald hx hb hE.1 hP 30 0 rfl rfl (vp_in_nI (n := pj) (by omega) (by decide)) dX7_of_162 ?_
        refine lv_topi (fun v18 ev18 => ?_)
        refine vx_ret ?_
        refine W.widen (k := 1) (n := 6) (Nat.le_of_ble_eq_true rfl) (Nat.le_of_ble_eq_true rfl) ?_
        refine k_iret (u := [(oX7 x x0 x1 x2 x3 x4 x5), (oX4 x1 x0 s1 s2 (nI pn) si4 s5 s6 s7 s8 s9 s10 s11 si12 si13), (oX0 x0 b0 b1 b2 b3 b4 b5 b6 b7 b8 b9 b10 b11 (nI np) (nI nl) bi14), (oX6 s1 w0 w1 w2 w3 w4 (nI wn) wi6 (nI lv) w8), (oX2 s2 d0 d1 d2), (aIc cI b0 8 B0), (aIc cI b1 8 B1), (aIc cI b2 8 B2), (aIc cI b3 8 B3), (aIc cI b4 8 B4), (aIc cI b6 8 B6), (aIc cI b8 64 B8), (aIc cI b10 10 B10), (aIc cI b11 10 B11), (aIc cI s5 8 S5), (aIc cI s6 8 S6), (aIc cI s7 8 S7), (aIc cI s8 8 S8), (aIc cI s9 8 S9), (aIc cI s10 8 S10), (aIc cI s11 8 S11), (aIc cI w0 8 W0), (aIc cI w1 8 W1), (aIc cI w2 8 W2), (aIc cI w3 8 W3), (aIc cI w4 8 W4), (aIc cI w8 8 W8), (aIc cI d0 8 D0), (aIc cI d1 8 D1), (aJc cJ d2 8 D2), (aIc cI b5 8 B5), (aIc cI b7 8 B7)]) hx hb hr hlk hP hD hS dX7_of_163 ?_
        exact ⟨S5, S6, S7, S8, S9, S10, S11, W1, W2, W3, W4, W8, D0, D1, D2, si12, si13, wi6, lv, W0, si4, wn, pn, (by omega), (by omega), (by first | omega | exact ev_lt hnp), rfl⟩
      by_cases c19 : p1 = 6
      · skip
        refine lv_tableIn (tgt := 164) hx hb dX7_of_46 (by rw [c19]; decide) (by rw [c19]; decide) (off := 118) (by rw [c19]; rfl) (by decide) ?_
        refine lv_aload_n hx hb dX7_of_164 rfl (lv_at hl 0 rfl) ?_
        refine va_get (D := D) (ci := 7) (v := .ref x0) (C := RX7) (T := TX7) (N := 6) hx hb hts hiX7 hown hE.1 hP 0 rfl rfl 0 (by decide) (hts _ (List.mem_cons_of_mem _ wd_19)) (fun _ h9 => h9) rfl dX7_of_165 ?_
        refine va_get (D := D) (ci := 0) (v := .ref b6) (C := RX0) (T := TX0) (N := 15) hx hb hts hiX0 hown hE.1 hP 2 rfl rfl 6 (by decide) (hts _ (List.mem_cons_of_mem _ wd_185)) (fun _ h9 => h9) rfl dX7_of_168 ?_
        refine lv_iload_n hx hb dX7_of_171 rfl (lv_at hl 1 rfl) ?_
        refine va_iald hx hb hE.1 hP 10 0 rfl rfl (vp_in_nI (n := pj) (by omega) (by decide)) dX7_of_172 ?_
        refine lv_topi (fun v20 ev20 => ?_)
        refine vx_ret ?_
        refine W.widen (k := 1) (n := 6) (Nat.le_of_ble_eq_true rfl) (Nat.le_of_ble_eq_true rfl) ?_
        refine k_iret (u := [(oX7 x x0 x1 x2 x3 x4 x5), (oX4 x1 x0 s1 s2 (nI pn) si4 s5 s6 s7 s8 s9 s10 s11 si12 si13), (oX0 x0 b0 b1 b2 b3 b4 b5 b6 b7 b8 b9 b10 b11 (nI np) (nI nl) bi14), (oX6 s1 w0 w1 w2 w3 w4 (nI wn) wi6 (nI lv) w8), (oX2 s2 d0 d1 d2), (aIc cI b0 8 B0), (aIc cI b1 8 B1), (aIc cI b2 8 B2), (aIc cI b3 8 B3), (aIc cI b4 8 B4), (aIc cI b6 8 B6), (aIc cI b8 64 B8), (aIc cI b10 10 B10), (aIc cI b11 10 B11), (aIc cI s5 8 S5), (aIc cI s6 8 S6), (aIc cI s7 8 S7), (aIc cI s8 8 S8), (aIc cI s9 8 S9), (aIc cI s10 8 S10), (aIc cI s11 8 S11), (aIc cI w0 8 W0), (aIc cI w1 8 W1), (aIc cI w2 8 W2), (aIc cI w3 8 W3), (aIc cI w4 8 W4), (aIc cI w8 8 W8), (aIc cI d0 8 D0), (aIc cI d1 8 D1), (aJc cJ d2 8 D2), (aIc cI b5 8 B5), (aIc cI b7 8 B7)]) hx hb hr hlk hP hD hS dX7_of_173 ?_
        exact ⟨S5, S6, S7, S8, S9, S10, S11, W1, W2, W3, W4, W8, D0, D1, D2, si12, si13, wi6, lv, W0, si4, wn, pn, (by omega), (by omega), (by first | omega | exact ev_lt hnp), rfl⟩
      by_cases c21 : p1 = 7
      · skip
        refine lv_tableIn (tgt := 174) hx hb dX7_of_46 (by rw [c21]; decide) (by rw [c21]; decide) (off := 128) (by rw [c21]; rfl) (by decide) ?_
        refine lv_aload_n hx hb dX7_of_174 rfl (lv_at hl 0 rfl) ?_
        refine k_v (va_runV (As := []) (rest := []) ⟨hx, hb, hml, hown, hts⟩ (m_X7_settleAll l D cI cJ H.size x x0 x1 x2 x3 x4 x5 s1 s2 s5 s6 s7 s8 s9 s10 s11 b0 b1 b2 b3 b4 b5 b6 b7 b8 b9 b10 b11 w0 w1 w2 w3 w4 w8 d0 d1 d2 wn lv np nl pn si4 si12 si13 bi14 wi6 B0 B1 B2 B3 B4 B6 B8 B10 B11 S5 S6 S7 S8 S9 S10 S11 W0 W1 W2 W3 W4 W8 D0 D1 D2 B5 (by omega) (by omega) (by omega) (by omega) (by omega) (by omega)) (cwV 0 hts gX7_of_X7_settleAll rfl rfl rfl (by decide +kernel) ⟨Nat.le_of_ble_eq_true rfl, Nat.le_of_ble_eq_true rfl⟩) (k_preV hE hP hD [0, 1, 2, 3, 4, 5, 6, 7, 8, 9, 10, 11, 12, 13, 14, 15, 16, 17, 18, 19, 20, 21, 22, 23, 24, 25, 26, 27, 28, 29, 30] (by decide +kernel) rfl 0 rfl rfl) rfl rfl hl.1 rfl (lv_room (Nat.le_of_ble_eq_true rfl)) dX7_of_175 ⟨Nat.le_of_ble_eq_true rfl, Nat.le_of_ble_eq_true rfl⟩) hP hD hS hA [0, 1, 2, 3, 4, 5, 6, 7, 8, 9, 10, 11, 12, 13, 14, 15, 16, 17, 18, 19, 20, 21, 22, 23, 24, 25, 26, 27, 28, 29, 30] [31] rfl (wr := [(aIc cI b7 8 B7)]) rfl (by decide +kernel) (by decide +kernel) (fun u H locs hw22 hP hD hS => ?_)
        obtain ⟨z23, z24, z25, z26, z27, z28, z29, z30, z31, z32, z33, z34, z35, z36, z37, z38, z39, z40, z41, z42, z43, z44, z45, hz46, hz47, hz48, rfl⟩ := hw22
        refine k_re (w := [(aIc cI b7 8 B7), (oX7 x x0 x1 x2 x3 x4 x5), (oX4 x1 x0 s1 s2 (nI z45) z43 s5 s6 s7 s8 s9 s10 s11 z38 z39), (oX0 x0 b0 b1 b2 b3 b4 b5 b6 b7 b8 b9 b10 b11 (nI np) (nI nl) bi14), (oX6 s1 w0 w1 w2 w3 w4 (nI z44) z40 (nI z41) w8), (oX2 s2 d0 d1 d2), (aIc cI b0 8 B0), (aIc cI b1 8 B1), (aIc cI b2 8 B2), (aIc cI b3 8 B3), (aIc cI b4 8 B4), (aIc cI b6 8 B6), (aIc cI b8 64 B8), (aIc cI b10 10 B10), (aIc cI b11 10 B11), (aIc cI s5 8 z23), (aIc cI s6 8 z24), (aIc cI s7 8 z25), (aIc cI s8 8 z26), (aIc cI s9 8 z27), (aIc cI s10 8 z28), (aIc cI s11 8 z29), (aIc cI w0 8 z42), (aIc cI w1 8 z30), (aIc cI w2 8 z31), (aIc cI w3 8 z32), (aIc cI w4 8 z33), (aIc cI w8 8 z34), (aIc cI d0 8 z35), (aIc cI d1 8 z36), (aJc cJ d2 8 z37), (aIc cI b5 8 B5)]) hP hD (fun hP hD => ?_)
        refine lv_aload_n hx hb dX7_of_178 rfl (lv_at hl 0 rfl) ?_
        refine va_get (D := D) (ci := 7) (v := .ref x1) (C := RX7) (T := TX7) (N := 6) hx hb hts hiX7 hown hE.1 hP 1 rfl rfl 1 (by decide) (hts _ (List.mem_cons_of_mem _ wd_17)) (fun _ h9 => h9) rfl dX7_of_179 ?_
        refine va_get (D := D) (ci := 4) (v := .ref s5) (C := RX4) (T := TX4) (N := 14) hx hb hts hiX4 hown hE.1 hP 2 rfl rfl 5 (by decide) (hts _ (List.mem_cons_of_mem _ wd_497)) (fun _ h9 => h9) rfl dX7_of_182 ?_
        refine lv_iload_n hx hb dX7_of_185 rfl (lv_at hl 1 rfl) ?_
        refine va_iald hx hb hE.1 hP 15 0 rfl rfl (vp_in_nI (n := pj) (by omega) (by decide)) dX7_of_186 ?_
        refine lv_topi (fun v49 ev49 => ?_)
        refine vx_ret ?_
        refine W.widen (k := 1) (n := 6) (Nat.le_of_ble_eq_true rfl) (Nat.le_of_ble_eq_true rfl) ?_
        refine k_iret (u := [(oX7 x x0 x1 x2 x3 x4 x5), (oX4 x1 x0 s1 s2 (nI z45) z43 s5 s6 s7 s8 s9 s10 s11 z38 z39), (oX0 x0 b0 b1 b2 b3 b4 b5 b6 b7 b8 b9 b10 b11 (nI np) (nI nl) bi14), (oX6 s1 w0 w1 w2 w3 w4 (nI z44) z40 (nI z41) w8), (oX2 s2 d0 d1 d2), (aIc cI b0 8 B0), (aIc cI b1 8 B1), (aIc cI b2 8 B2), (aIc cI b3 8 B3), (aIc cI b4 8 B4), (aIc cI b6 8 B6), (aIc cI b8 64 B8), (aIc cI b10 10 B10), (aIc cI b11 10 B11), (aIc cI s5 8 z23), (aIc cI s6 8 z24), (aIc cI s7 8 z25), (aIc cI s8 8 z26), (aIc cI s9 8 z27), (aIc cI s10 8 z28), (aIc cI s11 8 z29), (aIc cI w0 8 z42), (aIc cI w1 8 z30), (aIc cI w2 8 z31), (aIc cI w3 8 z32), (aIc cI w4 8 z33), (aIc cI w8 8 z34), (aIc cI d0 8 z35), (aIc cI d1 8 z36), (aJc cJ d2 8 z37), (aIc cI b5 8 B5), (aIc cI b7 8 B7)]) hx hb hr hlk (k_sub hP [1, 2, 3, 4, 5, 6, 7, 8, 9, 10, 11, 12, 13, 14, 15, 16, 17, 18, 19, 20, 21, 22, 23, 24, 25, 26, 27, 28, 29, 30, 31, 0] rfl) (hD.sub [1, 2, 3, 4, 5, 6, 7, 8, 9, 10, 11, 12, 13, 14, 15, 16, 17, 18, 19, 20, 21, 22, 23, 24, 25, 26, 27, 28, 29, 30, 31, 0] (by decide +kernel) rfl) hS dX7_of_187 ?_
        exact ⟨z23, z24, z25, z26, z27, z28, z29, z30, z31, z32, z33, z34, z35, z36, z37, z38, z39, z40, z41, z42, z43, z44, z45, (by omega), (by omega), (by first | omega | exact ev_lt hnp), rfl⟩
      by_cases c50 : p1 = 8
      · skip
        refine lv_tableIn (tgt := 188) hx hb dX7_of_46 (by rw [c50]; decide) (by rw [c50]; decide) (off := 142) (by rw [c50]; rfl) (by decide) ?_
        refine lv_aload_n hx hb dX7_of_188 rfl (lv_at hl 0 rfl) ?_
        refine k_v (va_runV (As := []) (rest := []) ⟨hx, hb, hml, hown, hts⟩ (m_X7_settleAll l D cI cJ H.size x x0 x1 x2 x3 x4 x5 s1 s2 s5 s6 s7 s8 s9 s10 s11 b0 b1 b2 b3 b4 b5 b6 b7 b8 b9 b10 b11 w0 w1 w2 w3 w4 w8 d0 d1 d2 wn lv np nl pn si4 si12 si13 bi14 wi6 B0 B1 B2 B3 B4 B6 B8 B10 B11 S5 S6 S7 S8 S9 S10 S11 W0 W1 W2 W3 W4 W8 D0 D1 D2 B5 (by omega) (by omega) (by omega) (by omega) (by omega) (by omega)) (cwV 0 hts gX7_of_X7_settleAll rfl rfl rfl (by decide +kernel) ⟨Nat.le_of_ble_eq_true rfl, Nat.le_of_ble_eq_true rfl⟩) (k_preV hE hP hD [0, 1, 2, 3, 4, 5, 6, 7, 8, 9, 10, 11, 12, 13, 14, 15, 16, 17, 18, 19, 20, 21, 22, 23, 24, 25, 26, 27, 28, 29, 30] (by decide +kernel) rfl 0 rfl rfl) rfl rfl hl.1 rfl (lv_room (Nat.le_of_ble_eq_true rfl)) dX7_of_189 ⟨Nat.le_of_ble_eq_true rfl, Nat.le_of_ble_eq_true rfl⟩) hP hD hS hA [0, 1, 2, 3, 4, 5, 6, 7, 8, 9, 10, 11, 12, 13, 14, 15, 16, 17, 18, 19, 20, 21, 22, 23, 24, 25, 26, 27, 28, 29, 30] [31] rfl (wr := [(aIc cI b7 8 B7)]) rfl (by decide +kernel) (by decide +kernel) (fun u H locs hw51 hP hD hS => ?_)
        obtain ⟨z52, z53, z54, z55, z56, z57, z58, z59, z60, z61, z62, z63, z64, z65, z66, z67, z68, z69, z70, z71, z72, z73, z74, hz75, hz76, hz77, rfl⟩ := hw51
        refine k_re (w := [(aIc cI b7 8 B7), (oX7 x x0 x1 x2 x3 x4 x5), (oX4 x1 x0 s1 s2 (nI z74) z72 s5 s6 s7 s8 s9 s10 s11 z67 z68), (oX0 x0 b0 b1 b2 b3 b4 b5 b6 b7 b8 b9 b10 b11 (nI np) (nI nl) bi14), (oX6 s1 w0 w1 w2 w3 w4 (nI z73) z69 (nI z70) w8), (oX2 s2 d0 d1 d2), (aIc cI b0 8 B0), (aIc cI b1 8 B1), (aIc cI b2 8 B2), (aIc cI b3 8 B3), (aIc cI b4 8 B4), (aIc cI b6 8 B6), (aIc cI b8 64 B8), (aIc cI b10 10 B10), (aIc cI b11 10 B11), (aIc cI s5 8 z52), (aIc cI s6 8 z53), (aIc cI s7 8 z54), (aIc cI s8 8 z55), (aIc cI s9 8 z56), (aIc cI s10 8 z57), (aIc cI s11 8 z58), (aIc cI w0 8 z71), (aIc cI w1 8 z59), (aIc cI w2 8 z60), (aIc cI w3 8 z61), (aIc cI w4 8 z62), (aIc cI w8 8 z63), (aIc cI d0 8 z64), (aIc cI d1 8 z65), (aJc cJ d2 8 z66), (aIc cI b5 8 B5)]) hP hD (fun hP hD => ?_)
        refine lv_aload_n hx hb dX7_of_192 rfl (lv_at hl 0 rfl) ?_
        refine va_get (D := D) (ci := 7) (v := .ref x0) (C := RX7) (T := TX7) (N := 6) hx hb hts hiX7 hown hE.1 hP 1 rfl rfl 0 (by decide) (hts _ (List.mem_cons_of_mem _ wd_19)) (fun _ h9 => h9) rfl dX7_of_193 ?_
        refine va_get (D := D) (ci := 0) (v := .ref b1) (C := RX0) (T := TX0) (N := 15) hx hb hts hiX0 hown hE.1 hP 3 rfl rfl 1 (by decide) (hts _ (List.mem_cons_of_mem _ wd_160)) (fun _ h9 => h9) rfl dX7_of_196 ?_
        refine lv_iload_n hx hb dX7_of_199 rfl (lv_at hl 1 rfl) ?_
        refine va_iald hx hb hE.1 hP 7 0 rfl rfl (vp_in_nI (n := pj) (by omega) (by decide)) dX7_of_200 ?_
        refine lv_topi (fun v78 ev78 => ?_)
        refine lv_aload_n hx hb dX7_of_201 rfl (lv_at hl 0 rfl) ?_
        refine va_get (D := D) (ci := 7) (v := .ref x1) (C := RX7) (T := TX7) (N := 6) hx hb hts hiX7 hown hE.1 hP 1 rfl rfl 1 (by decide) (hts _ (List.mem_cons_of_mem _ wd_17)) (fun _ h9 => h9) rfl dX7_of_202 ?_
        refine va_get (D := D) (ci := 4) (v := .ref s5) (C := RX4) (T := TX4) (N := 14) hx hb hts hiX4 hown hE.1 hP 2 rfl rfl 5 (by decide) (hts _ (List.mem_cons_of_mem _ wd_497)) (fun _ h9 => h9) rfl dX7_of_205 ?_
        refine lv_iload_n hx hb dX7_of_208 rfl (lv_at hl 1 rfl) ?_
        refine va_iald hx hb hE.1 hP 15 0 rfl rfl (vp_in_nI (n := pj) (by omega) (by decide)) dX7_of_209 ?_
        refine lv_topi (fun v79 ev79 => ?_)
        refine lv_isub hx hb dX7_of_210 ?_
        refine lv_topi (fun v80 ev80 => ?_)
        refine vx_ret ?_
        refine W.widen (k := 1) (n := 6) (Nat.le_of_ble_eq_true rfl) (Nat.le_of_ble_eq_true rfl) ?_
        refine k_iret (u := [(oX7 x x0 x1 x2 x3 x4 x5), (oX4 x1 x0 s1 s2 (nI z74) z72 s5 s6 s7 s8 s9 s10 s11 z67 z68), (oX0 x0 b0 b1 b2 b3 b4 b5 b6 b7 b8 b9 b10 b11 (nI np) (nI nl) bi14), (oX6 s1 w0 w1 w2 w3 w4 (nI z73) z69 (nI z70) w8), (oX2 s2 d0 d1 d2), (aIc cI b0 8 B0), (aIc cI b1 8 B1), (aIc cI b2 8 B2), (aIc cI b3 8 B3), (aIc cI b4 8 B4), (aIc cI b6 8 B6), (aIc cI b8 64 B8), (aIc cI b10 10 B10), (aIc cI b11 10 B11), (aIc cI s5 8 z52), (aIc cI s6 8 z53), (aIc cI s7 8 z54), (aIc cI s8 8 z55), (aIc cI s9 8 z56), (aIc cI s10 8 z57), (aIc cI s11 8 z58), (aIc cI w0 8 z71), (aIc cI w1 8 z59), (aIc cI w2 8 z60), (aIc cI w3 8 z61), (aIc cI w4 8 z62), (aIc cI w8 8 z63), (aIc cI d0 8 z64), (aIc cI d1 8 z65), (aJc cJ d2 8 z66), (aIc cI b5 8 B5), (aIc cI b7 8 B7)]) hx hb hr hlk (k_sub hP [1, 2, 3, 4, 5, 6, 7, 8, 9, 10, 11, 12, 13, 14, 15, 16, 17, 18, 19, 20, 21, 22, 23, 24, 25, 26, 27, 28, 29, 30, 31, 0] rfl) (hD.sub [1, 2, 3, 4, 5, 6, 7, 8, 9, 10, 11, 12, 13, 14, 15, 16, 17, 18, 19, 20, 21, 22, 23, 24, 25, 26, 27, 28, 29, 30, 31, 0] (by decide +kernel) rfl) hS dX7_of_211 ?_
        exact ⟨z52, z53, z54, z55, z56, z57, z58, z59, z60, z61, z62, z63, z64, z65, z66, z67, z68, z69, z70, z71, z72, z73, z74, (by omega), (by omega), (by first | omega | exact ev_lt hnp), rfl⟩
      by_cases c81 : p1 = 9
      · skip
        refine lv_tableIn (tgt := 212) hx hb dX7_of_46 (by rw [c81]; decide) (by rw [c81]; decide) (off := 166) (by rw [c81]; rfl) (by decide) ?_
        refine lv_aload_n hx hb dX7_of_212 rfl (lv_at hl 0 rfl) ?_
        refine va_get (D := D) (ci := 7) (v := .ref x0) (C := RX7) (T := TX7) (N := 6) hx hb hts hiX7 hown hE.1 hP 0 rfl rfl 0 (by decide) (hts _ (List.mem_cons_of_mem _ wd_19)) (fun _ h9 => h9) rfl dX7_of_213 ?_
        refine va_get (D := D) (ci := 0) (v := .ref b7) (C := RX0) (T := TX0) (N := 15) hx hb hts hiX0 hown hE.1 hP 2 rfl rfl 7 (by decide) (hts _ (List.mem_cons_of_mem _ wd_235)) (fun _ h9 => h9) rfl dX7_of_216 ?_
        refine lv_iload_n hx hb dX7_of_219 rfl (lv_at hl 1 rfl) ?_
        refine va_iald hx hb hE.1 hP 31 0 rfl rfl (vp_in_nI (n := pj) (by omega) (by decide)) dX7_of_220 ?_
        refine lv_topi (fun v82 ev82 => ?_)
        refine vx_ret ?_
        refine W.widen (k := 1) (n := 6) (Nat.le_of_ble_eq_true rfl) (Nat.le_of_ble_eq_true rfl) ?_
        refine k_iret (u := [(oX7 x x0 x1 x2 x3 x4 x5), (oX4 x1 x0 s1 s2 (nI pn) si4 s5 s6 s7 s8 s9 s10 s11 si12 si13), (oX0 x0 b0 b1 b2 b3 b4 b5 b6 b7 b8 b9 b10 b11 (nI np) (nI nl) bi14), (oX6 s1 w0 w1 w2 w3 w4 (nI wn) wi6 (nI lv) w8), (oX2 s2 d0 d1 d2), (aIc cI b0 8 B0), (aIc cI b1 8 B1), (aIc cI b2 8 B2), (aIc cI b3 8 B3), (aIc cI b4 8 B4), (aIc cI b6 8 B6), (aIc cI b8 64 B8), (aIc cI b10 10 B10), (aIc cI b11 10 B11), (aIc cI s5 8 S5), (aIc cI s6 8 S6), (aIc cI s7 8 S7), (aIc cI s8 8 S8), (aIc cI s9 8 S9), (aIc cI s10 8 S10), (aIc cI s11 8 S11), (aIc cI w0 8 W0), (aIc cI w1 8 W1), (aIc cI w2 8 W2), (aIc cI w3 8 W3), (aIc cI w4 8 W4), (aIc cI w8 8 W8), (aIc cI d0 8 D0), (aIc cI d1 8 D1), (aJc cJ d2 8 D2), (aIc cI b5 8 B5), (aIc cI b7 8 B7)]) hx hb hr hlk hP hD hS dX7_of_221 ?_
        exact ⟨S5, S6, S7, S8, S9, S10, S11, W1, W2, W3, W4, W8, D0, D1, D2, si12, si13, wi6, lv, W0, si4, wn, pn, (by omega), (by omega), (by first | omega | exact ev_lt hnp), rfl⟩
      by_cases c83 : p1 = 10
      · skip
        refine lv_tableIn (tgt := 222) hx hb dX7_of_46 (by rw [c83]; decide) (by rw [c83]; decide) (off := 176) (by rw [c83]; rfl) (by decide) ?_
        refine lv_aload_n hx hb dX7_of_222 rfl (lv_at hl 0 rfl) ?_
        refine k_v (va_runV (As := []) (rest := []) ⟨hx, hb, hml, hown, hts⟩ (m_X7_settleAll l D cI cJ H.size x x0 x1 x2 x3 x4 x5 s1 s2 s5 s6 s7 s8 s9 s10 s11 b0 b1 b2 b3 b4 b5 b6 b7 b8 b9 b10 b11 w0 w1 w2 w3 w4 w8 d0 d1 d2 wn lv np nl pn si4 si12 si13 bi14 wi6 B0 B1 B2 B3 B4 B6 B8 B10 B11 S5 S6 S7 S8 S9 S10 S11 W0 W1 W2 W3 W4 W8 D0 D1 D2 B5 (by omega) (by omega) (by omega) (by omega) (by omega) (by omega)) (cwV 0 hts gX7_of_X7_settleAll rfl rfl rfl (by decide +kernel) ⟨Nat.le_of_ble_eq_true rfl, Nat.le_of_ble_eq_true rfl⟩) (k_preV hE hP hD [0, 1, 2, 3, 4, 5, 6, 7, 8, 9, 10, 11, 12, 13, 14, 15, 16, 17, 18, 19, 20, 21, 22, 23, 24, 25, 26, 27, 28, 29, 30] (by decide +kernel) rfl 0 rfl rfl) rfl rfl hl.1 rfl (lv_room (Nat.le_of_ble_eq_true rfl)) dX7_of_223 ⟨Nat.le_of_ble_eq_true rfl, Nat.le_of_ble_eq_true rfl⟩) hP hD hS hA [0, 1, 2, 3, 4, 5, 6, 7, 8, 9, 10, 11, 12, 13, 14, 15, 16, 17, 18, 19, 20, 21, 22, 23, 24, 25, 26, 27, 28, 29, 30] [31] rfl (wr := [(aIc cI b7 8 B7)]) rfl (by decide +kernel) (by decide +kernel) (fun u H locs hw84 hP hD hS => ?_)
        obtain ⟨z85, z86, z87, z88, z89, z90, z91, z92, z93, z94, z95, z96, z97, z98, z99, z100, z101, z102, z103, z104, z105, z106, z107, hz108, hz109, hz110, rfl⟩ := hw84
        refine k_re (w := [(aIc cI b7 8 B7), (oX7 x x0 x1 x2 x3 x4 x5), (oX4 x1 x0 s1 s2 (nI z107) z105 s5 s6 s7 s8 s9 s10 s11 z100 z101), (oX0 x0 b0 b1 b2 b3 b4 b5 b6 b7 b8 b9 b10 b11 (nI np) (nI nl) bi14), (oX6 s1 w0 w1 w2 w3 w4 (nI z106) z102 (nI z103) w8), (oX2 s2 d0 d1 d2), (aIc cI b0 8 B0), (aIc cI b1 8 B1), (aIc cI b2 8 B2), (aIc cI b3 8 B3), (aIc cI b4 8 B4), (aIc cI b6 8 B6), (aIc cI b8 64 B8), (aIc cI b10 10 B10), (aIc cI b11 10 B11), (aIc cI s5 8 z85), (aIc cI s6 8 z86), (aIc cI s7 8 z87), (aIc cI s8 8 z88), (aIc cI s9 8 z89), (aIc cI s10 8 z90), (aIc cI s11 8 z91), (aIc cI w0 8 z104), (aIc cI w1 8 z92), (aIc cI w2 8 z93), (aIc cI w3 8 z94), (aIc cI w4 8 z95), (aIc cI w8 8 z96), (aIc cI d0 8 z97), (aIc cI d1 8 z98), (aJc cJ d2 8 z99), (aIc cI b5 8 B5)]) hP hD (fun hP hD => ?_)
        refine lv_aload_n hx hb dX7_of_226 rfl (lv_at hl 0 rfl) ?_
        refine va_get (D := D) (ci := 7) (v := .ref x1) (C := RX7) (T := TX7) (N := 6) hx hb hts hiX7 hown hE.1 hP 1 rfl rfl 1 (by decide) (hts _ (List.mem_cons_of_mem _ wd_17)) (fun _ h9 => h9) rfl dX7_of_227 ?_
        refine va_get (D := D) (ci := 4) (v := .ref s7) (C := RX4) (T := TX4) (N := 14) hx hb hts hiX4 hown hE.1 hP 2 rfl rfl 7 (by decide) (hts _ (List.mem_cons_of_mem _ wd_498)) (fun _ h9 => h9) rfl dX7_of_230 ?_
        refine lv_iload_n hx hb dX7_of_233 rfl (lv_at hl 1 rfl) ?_
        refine va_iald hx hb hE.1 hP 17 0 rfl rfl (vp_in_nI (n := pj) (by omega) (by decide)) dX7_of_234 ?_
        refine lv_topi (fun v111 ev111 => ?_)
        refine vx_ret ?_
        refine W.widen (k := 1) (n := 6) (Nat.le_of_ble_eq_true rfl) (Nat.le_of_ble_eq_true rfl) ?_
        refine k_iret (u := [(oX7 x x0 x1 x2 x3 x4 x5), (oX4 x1 x0 s1 s2 (nI z107) z105 s5 s6 s7 s8 s9 s10 s11 z100 z101), (oX0 x0 b0 b1 b2 b3 b4 b5 b6 b7 b8 b9 b10 b11 (nI np) (nI nl) bi14), (oX6 s1 w0 w1 w2 w3 w4 (nI z106) z102 (nI z103) w8), (oX2 s2 d0 d1 d2), (aIc cI b0 8 B0), (aIc cI b1 8 B1), (aIc cI b2 8 B2), (aIc cI b3 8 B3), (aIc cI b4 8 B4), (aIc cI b6 8 B6), (aIc cI b8 64 B8), (aIc cI b10 10 B10), (aIc cI b11 10 B11), (aIc cI s5 8 z85), (aIc cI s6 8 z86), (aIc cI s7 8 z87), (aIc cI s8 8 z88), (aIc cI s9 8 z89), (aIc cI s10 8 z90), (aIc cI s11 8 z91), (aIc cI w0 8 z104), (aIc cI w1 8 z92), (aIc cI w2 8 z93), (aIc cI w3 8 z94), (aIc cI w4 8 z95), (aIc cI w8 8 z96), (aIc cI d0 8 z97), (aIc cI d1 8 z98), (aJc cJ d2 8 z99), (aIc cI b5 8 B5), (aIc cI b7 8 B7)]) hx hb hr hlk (k_sub hP [1, 2, 3, 4, 5, 6, 7, 8, 9, 10, 11, 12, 13, 14, 15, 16, 17, 18, 19, 20, 21, 22, 23, 24, 25, 26, 27, 28, 29, 30, 31, 0] rfl) (hD.sub [1, 2, 3, 4, 5, 6, 7, 8, 9, 10, 11, 12, 13, 14, 15, 16, 17, 18, 19, 20, 21, 22, 23, 24, 25, 26, 27, 28, 29, 30, 31, 0] (by decide +kernel) rfl) hS dX7_of_235 ?_
        exact ⟨z85, z86, z87, z88, z89, z90, z91, z92, z93, z94, z95, z96, z97, z98, z99, z100, z101, z102, z103, z104, z105, z106, z107, (by omega), (by omega), (by first | omega | exact ev_lt hnp), rfl⟩
      refine lv_tableOut (tgt := 236) hx hb dX7_of_46 (sw_out11 c7 c9 c11 c13 c15 c17 c19 c21 c50 c81 c83) (by decide) ?_
      have hat : ∀ w ∈ vx_at0 RX7 130 NSE NSN, w.before [.ref x, .int p0, .int p1].toArray s = true := vx_hat (B := xB) (fun w h => hts w (List.mem_cons_of_mem _ (tbx w h))) (by decide +kernel) hXw.use
      have hPu : va_P D vwCl [(oX7 x x0 x1 x2 x3 x4 x5), (oX4 x1 x0 s1 s2 (nI pn) si4 s5 s6 s7 s8 s9 s10 s11 si12 si13), (oX0 x0 b0 b1 b2 b3 b4 b5 b6 b7 b8 b9 b10 b11 (nI np) (nI nl) bi14), (oX6 s1 w0 w1 w2 w3 w4 (nI wn) wi6 (nI lv) w8), (oX2 s2 d0 d1 d2), (aIc cI b0 8 B0), (aIc cI b1 8 B1), (aIc cI b2 8 B2), (aIc cI b3 8 B3), (aIc cI b4 8 B4), (aIc cI b6 8 B6), (aIc cI b8 64 B8), (aIc cI b10 10 B10), (aIc cI b11 10 B11), (aIc cI s5 8 S5), (aIc cI s6 8 S6), (aIc cI s7 8 S7), (aIc cI s8 8 S8), (aIc cI s9 8 S9), (aIc cI s10 8 S10), (aIc cI s11 8 S11), (aIc cI w0 8 W0), (aIc cI w1 8 W1), (aIc cI w2 8 W2), (aIc cI w3 8 W3), (aIc cI w4 8 W4), (aIc cI w8 8 W8), (aIc cI d0 8 D0), (aIc cI d1 8 D1), (aJc cJ d2 8 D2), (aIc cI b5 8 B5), (aIc cI b7 8 B7)] H := hP
      have hDu : va_D A [(oX7 x x0 x1 x2 x3 x4 x5), (oX4 x1 x0 s1 s2 (nI pn) si4 s5 s6 s7 s8 s9 s10 s11 si12 si13), (oX0 x0 b0 b1 b2 b3 b4 b5 b6 b7 b8 b9 b10 b11 (nI np) (nI nl) bi14), (oX6 s1 w0 w1 w2 w3 w4 (nI wn) wi6 (nI lv) w8), (oX2 s2 d0 d1 d2), (aIc cI b0 8 B0), (aIc cI b1 8 B1), (aIc cI b2 8 B2), (aIc cI b3 8 B3), (aIc cI b4 8 B4), (aIc cI b6 8 B6), (aIc cI b8 64 B8), (aIc cI b10 10 B10), (aIc cI b11 10 B11), (aIc cI s5 8 S5), (aIc cI s6 8 S6), (aIc cI s7 8 S7), (aIc cI s8 8 S8), (aIc cI s9 8 S9), (aIc cI s10 8 S10), (aIc cI s11 8 S11), (aIc cI w0 8 W0), (aIc cI w1 8 W1), (aIc cI w2 8 W2), (aIc cI w3 8 W3), (aIc cI w4 8 W4), (aIc cI w8 8 W8), (aIc cI d0 8 D0), (aIc cI d1 8 D1), (aJc cJ d2 8 D2), (aIc cI b5 8 B5), (aIc cI b7 8 B7)] := hD
      exact vx_throw0 (cls := NSE) (names := NSN) (ik := 128) (ic := 130) (mc := 1) (ms := 6) hx hb hl9 hown (by decide +kernel) (by decide +kernel) (hts _ (List.mem_cons_of_mem _ wd_495)) (hts _ (List.mem_cons_of_mem _ wd_496)) hat (by decide +kernel) hXw.2.1 hXw.2.2 hS (hl.1.trans hml.symm) dX7_of_236 dX7_of_239 dX7_of_240 dX7_of_243 (fun x hx9 => (htab x hx9).elim) (Nat.le_of_ble_eq_true rfl) (Nat.le_of_ble_eq_true rfl) (Nat.le_of_ble_eq_true rfl) (Nat.le_of_ble_eq_true rfl) hlk (fun t _ hz hk => ⟨[(oX7 x x0 x1 x2 x3 x4 x5), (oX4 x1 x0 s1 s2 (nI pn) si4 s5 s6 s7 s8 s9 s10 s11 si12 si13), (oX0 x0 b0 b1 b2 b3 b4 b5 b6 b7 b8 b9 b10 b11 (nI np) (nI nl) bi14), (oX6 s1 w0 w1 w2 w3 w4 (nI wn) wi6 (nI lv) w8), (oX2 s2 d0 d1 d2), (aIc cI b0 8 B0), (aIc cI b1 8 B1), (aIc cI b2 8 B2), (aIc cI b3 8 B3), (aIc cI b4 8 B4), (aIc cI b6 8 B6), (aIc cI b8 64 B8), (aIc cI b10 10 B10), (aIc cI b11 10 B11), (aIc cI s5 8 S5), (aIc cI s6 8 S6), (aIc cI s7 8 S7), (aIc cI s8 8 S8), (aIc cI s9 8 S9), (aIc cI s10 8 S10), (aIc cI s11 8 S11), (aIc cI w0 8 W0), (aIc cI w1 8 W1), (aIc cI w2 8 W2), (aIc cI w3 8 W3), (aIc cI w4 8 W4), (aIc cI w8 8 W8), (aIc cI d0 8 D0), (aIc cI d1 8 D1), (aJc cJ d2 8 D2), (aIc cI b5 8 B5), (aIc cI b7 8 B7)], ⟨S5, S6, S7, S8, S9, S10, S11, W1, W2, W3, W4, W8, D0, D1, D2, si12, si13, wi6, lv, W0, si4, wn, pn, (by omega), (by omega), (by first | omega | exact ev_lt hnp), rfl⟩, ⟨rfl, hPu.kept (fun k q hq => hk q.1 (hPu k q hq).lt), hDu⟩, ⟨Nat.le_trans hS.1 hz, fun q h1 h2 => (hk q (Nat.lt_of_lt_of_le h1 hS.1)).trans (hS.2.1 q h1 h2)⟩⟩) hS.2.2 (Nat.le_of_ble_eq_true rfl) (Nat.le_of_ble_eq_true rfl)
    · skip
      have hc6 : 20 ≤ p1 ∧ p1 ≤ 27 := bz_1 hw5 c6
      obtain ⟨wj, hwj, ewj⟩ := nI_of2 (x := p1) (M := 27) (n := 27) rfl (Int32.not_lt.mpr (Int32.le_trans (by decide) hc6.1)) hc6.2
      have hw20 : 20 ≤ wj := (nI_leI (a := 20) (b := wj) (by decide) (by omega)).mp (by rw [← ewj]; exact hc6.1)
      rw [ewj] at hl
      refine lv_aload_n hx hb dX7_of_27 rfl (lv_at hl 0 rfl) ?_
      refine va_get (D := D) (ci := 7) (v := .ref x0) (C := RX7) (T := TX7) (N := 6) hx hb hts hiX7 hown hE.1 hP 0 rfl rfl 0 (by decide) (hts _ (List.mem_cons_of_mem _ wd_19)) (fun _ h9 => h9) rfl dX7_of_28 ?_
      refine va_get (D := D) (ci := 0) (v := .ref b8) (C := RX0) (T := TX0) (N := 15) hx hb hts hiX0 hown hE.1 hP 2 rfl rfl 8 (by decide) (hts _ (List.mem_cons_of_mem _ wd_217)) (fun _ h9 => h9) rfl dX7_of_31 ?_
      refine lv_iload_n hx hb dX7_of_34 rfl (lv_at hl 1 rfl) ?_
      refine lv_bipush (v := 8) hx hb dX7_of_35 (by decide) ?_
      refine lv_imul hx hb dX7_of_37 ?_
      refine lv_topi (fun v112 ev112 => ?_)
      obtain rfl : v112 = (nI (pj * 8)) := by rw [ev112]; exact pk_mul pj 8
      refine lv_iload_n hx hb dX7_of_38 rfl (lv_at hl 2 rfl) ?_
      refine lv_iadd hx hb dX7_of_39 ?_
      refine lv_topi (fun v113 ev113 => ?_)
      obtain rfl : v113 = (nI (pj * 8 + wj)) := by rw [ev113]; exact nI_add (pj * 8) wj
      refine lv_bipush (v := 20) hx hb dX7_of_40 (by decide) ?_
      refine lv_isub hx hb dX7_of_42 ?_
      refine lv_topi (fun v114 ev114 => ?_)
      obtain rfl : v114 = nI (pj * 8 + wj - 20) := by rw [ev114]; exact pk_sub (a := pj * 8 + wj) (b := 20) (by omega)
      refine va_iald hx hb hE.1 hP 11 0 rfl rfl (vp_in_nI (n := pj * 8 + wj - 20) (by omega) (by decide)) dX7_of_43 ?_
      refine lv_topi (fun v115 ev115 => ?_)
      refine vx_ret ?_
      refine W.widen (k := 1) (n := 6) (Nat.le_of_ble_eq_true rfl) (Nat.le_of_ble_eq_true rfl) ?_
      refine k_iret (u := [(oX7 x x0 x1 x2 x3 x4 x5), (oX4 x1 x0 s1 s2 (nI pn) si4 s5 s6 s7 s8 s9 s10 s11 si12 si13), (oX0 x0 b0 b1 b2 b3 b4 b5 b6 b7 b8 b9 b10 b11 (nI np) (nI nl) bi14), (oX6 s1 w0 w1 w2 w3 w4 (nI wn) wi6 (nI lv) w8), (oX2 s2 d0 d1 d2), (aIc cI b0 8 B0), (aIc cI b1 8 B1), (aIc cI b2 8 B2), (aIc cI b3 8 B3), (aIc cI b4 8 B4), (aIc cI b6 8 B6), (aIc cI b8 64 B8), (aIc cI b10 10 B10), (aIc cI b11 10 B11), (aIc cI s5 8 S5), (aIc cI s6 8 S6), (aIc cI s7 8 S7), (aIc cI s8 8 S8), (aIc cI s9 8 S9), (aIc cI s10 8 S10), (aIc cI s11 8 S11), (aIc cI w0 8 W0), (aIc cI w1 8 W1), (aIc cI w2 8 W2), (aIc cI w3 8 W3), (aIc cI w4 8 W4), (aIc cI w8 8 W8), (aIc cI d0 8 D0), (aIc cI d1 8 D1), (aJc cJ d2 8 D2), (aIc cI b5 8 B5), (aIc cI b7 8 B7)]) hx hb hr hlk hP hD hS dX7_of_44 ?_
      exact ⟨S5, S6, S7, S8, S9, S10, S11, W1, W2, W3, W4, W8, D0, D1, D2, si12, si13, wi6, lv, W0, si4, wn, pn, (by omega), (by omega), (by first | omega | exact ev_lt hnp), rfl⟩
  · skip
    have hc3 : ¬ (0 ≤ p0 ∧ p0 ≤ (nI np) - 1) := bz_0 hw2 c3
    have hat : ∀ w ∈ vx_at0 RX7 130 NSE NSN, w.before [.ref x, .int p0, .int p1].toArray s = true := vx_hat (B := xB) (fun w h => hts w (List.mem_cons_of_mem _ (tbx w h))) (by decide +kernel) hXw.use
    have hPu : va_P D vwCl [(oX7 x x0 x1 x2 x3 x4 x5), (oX4 x1 x0 s1 s2 (nI pn) si4 s5 s6 s7 s8 s9 s10 s11 si12 si13), (oX0 x0 b0 b1 b2 b3 b4 b5 b6 b7 b8 b9 b10 b11 (nI np) (nI nl) bi14), (oX6 s1 w0 w1 w2 w3 w4 (nI wn) wi6 (nI lv) w8), (oX2 s2 d0 d1 d2), (aIc cI b0 8 B0), (aIc cI b1 8 B1), (aIc cI b2 8 B2), (aIc cI b3 8 B3), (aIc cI b4 8 B4), (aIc cI b6 8 B6), (aIc cI b8 64 B8), (aIc cI b10 10 B10), (aIc cI b11 10 B11), (aIc cI s5 8 S5), (aIc cI s6 8 S6), (aIc cI s7 8 S7), (aIc cI s8 8 S8), (aIc cI s9 8 S9), (aIc cI s10 8 S10), (aIc cI s11 8 S11), (aIc cI w0 8 W0), (aIc cI w1 8 W1), (aIc cI w2 8 W2), (aIc cI w3 8 W3), (aIc cI w4 8 W4), (aIc cI w8 8 W8), (aIc cI d0 8 D0), (aIc cI d1 8 D1), (aJc cJ d2 8 D2), (aIc cI b5 8 B5), (aIc cI b7 8 B7)] H := hP
    have hDu : va_D A [(oX7 x x0 x1 x2 x3 x4 x5), (oX4 x1 x0 s1 s2 (nI pn) si4 s5 s6 s7 s8 s9 s10 s11 si12 si13), (oX0 x0 b0 b1 b2 b3 b4 b5 b6 b7 b8 b9 b10 b11 (nI np) (nI nl) bi14), (oX6 s1 w0 w1 w2 w3 w4 (nI wn) wi6 (nI lv) w8), (oX2 s2 d0 d1 d2), (aIc cI b0 8 B0), (aIc cI b1 8 B1), (aIc cI b2 8 B2), (aIc cI b3 8 B3), (aIc cI b4 8 B4), (aIc cI b6 8 B6), (aIc cI b8 64 B8), (aIc cI b10 10 B10), (aIc cI b11 10 B11), (aIc cI s5 8 S5), (aIc cI s6 8 S6), (aIc cI s7 8 S7), (aIc cI s8 8 S8), (aIc cI s9 8 S9), (aIc cI s10 8 S10), (aIc cI s11 8 S11), (aIc cI w0 8 W0), (aIc cI w1 8 W1), (aIc cI w2 8 W2), (aIc cI w3 8 W3), (aIc cI w4 8 W4), (aIc cI w8 8 W8), (aIc cI d0 8 D0), (aIc cI d1 8 D1), (aJc cJ d2 8 D2), (aIc cI b5 8 B5), (aIc cI b7 8 B7)] := hD
    exact vx_throw0 (cls := NSE) (names := NSN) (ik := 128) (ic := 130) (mc := 1) (ms := 6) hx hb hl9 hown (by decide +kernel) (by decide +kernel) (hts _ (List.mem_cons_of_mem _ wd_495)) (hts _ (List.mem_cons_of_mem _ wd_496)) hat (by decide +kernel) hXw.2.1 hXw.2.2 hS (hl.1.trans hml.symm) dX7_of_8 dX7_of_11 dX7_of_12 dX7_of_15 (fun x hx9 => (htab x hx9).elim) (Nat.le_of_ble_eq_true rfl) (Nat.le_of_ble_eq_true rfl) (Nat.le_of_ble_eq_true rfl) (Nat.le_of_ble_eq_true rfl) hlk (fun t _ hz hk => ⟨[(oX7 x x0 x1 x2 x3 x4 x5), (oX4 x1 x0 s1 s2 (nI pn) si4 s5 s6 s7 s8 s9 s10 s11 si12 si13), (oX0 x0 b0 b1 b2 b3 b4 b5 b6 b7 b8 b9 b10 b11 (nI np) (nI nl) bi14), (oX6 s1 w0 w1 w2 w3 w4 (nI wn) wi6 (nI lv) w8), (oX2 s2 d0 d1 d2), (aIc cI b0 8 B0), (aIc cI b1 8 B1), (aIc cI b2 8 B2), (aIc cI b3 8 B3), (aIc cI b4 8 B4), (aIc cI b6 8 B6), (aIc cI b8 64 B8), (aIc cI b10 10 B10), (aIc cI b11 10 B11), (aIc cI s5 8 S5), (aIc cI s6 8 S6), (aIc cI s7 8 S7), (aIc cI s8 8 S8), (aIc cI s9 8 S9), (aIc cI s10 8 S10), (aIc cI s11 8 S11), (aIc cI w0 8 W0), (aIc cI w1 8 W1), (aIc cI w2 8 W2), (aIc cI w3 8 W3), (aIc cI w4 8 W4), (aIc cI w8 8 W8), (aIc cI d0 8 D0), (aIc cI d1 8 D1), (aJc cJ d2 8 D2), (aIc cI b5 8 B5), (aIc cI b7 8 B7)], ⟨S5, S6, S7, S8, S9, S10, S11, W1, W2, W3, W4, W8, D0, D1, D2, si12, si13, wi6, lv, W0, si4, wn, pn, (by omega), (by omega), (by first | omega | exact ev_lt hnp), rfl⟩, ⟨rfl, hPu.kept (fun k q hq => hk q.1 (hPu k q hq).lt), hDu⟩, ⟨Nat.le_trans hS.1 hz, fun q h1 h2 => (hk q (Nat.lt_of_lt_of_le h1 hS.1)).trans (hS.2.1 q h1 h2)⟩⟩) hS.2.2 (Nat.le_of_ble_eq_true rfl) (Nat.le_of_ble_eq_true rfl)
theorem dX7_share_0 : decode cX7_share 0 = .ok (.aload_n 0, 1) := by decide +kernel
theorem dX7_share_1 : decode cX7_share 1 = .ok (.iload_n 1, 1) := by decide +kernel
theorem dX7_share_2 : decode cX7_share 2 = .ok (.invokevirtual 137, 3) := by decide +kernel
theorem dX7_share_5 : decode cX7_share 5 = .ok (.ifCond .eq 11, 3) := by decide +kernel
theorem dX7_share_8 : decode cX7_share 8 = .ok (.aload_n 0, 1) := by decide +kernel
theorem dX7_share_9 : decode cX7_share 9 = .ok (.iload_n 2, 1) := by decide +kernel
theorem dX7_share_10 : decode cX7_share 10 = .ok (.invokevirtual 74, 3) := by decide +kernel
theorem dX7_share_13 : decode cX7_share 13 = .ok (.ifCond .ne 11, 3) := by decide +kernel
theorem dX7_share_16 : decode cX7_share 16 = .ok (.new 128, 3) := by decide +kernel
theorem dX7_share_19 : decode cX7_share 19 = .ok (.dup, 1) := by decide +kernel
theorem dX7_share_20 : decode cX7_share 20 = .ok (.invokespecial 130, 3) := by decide +kernel
theorem dX7_share_23 : decode cX7_share 23 = .ok (.athrow, 1) := by decide +kernel
theorem dX7_share_24 : decode cX7_share 24 = .ok (.aload_n 0, 1) := by decide +kernel
theorem dX7_share_25 : decode cX7_share 25 = .ok (.iload_n 1, 1) := by decide +kernel
theorem dX7_share_26 : decode cX7_share 26 = .ok (.invokevirtual 140, 3) := by decide +kernel
theorem dX7_share_29 : decode cX7_share 29 = .ok (.aload_n 0, 1) := by decide +kernel
theorem dX7_share_30 : decode cX7_share 30 = .ok (.getfield 10, 3) := by decide +kernel
theorem dX7_share_33 : decode cX7_share 33 = .ok (.getfield 144, 3) := by decide +kernel
theorem dX7_share_36 : decode cX7_share 36 = .ok (.astore 4, 2) := by decide +kernel
theorem dX7_share_38 : decode cX7_share 38 = .ok (.iload_n 3, 1) := by decide +kernel
theorem dX7_share_39 : decode cX7_share 39 = .ok (.tableswitch 129 0 8 #[49, 59, 67, 77, 87, 95, 103, 110, 120], 49) := by decide +kernel
theorem dX7_share_88 : decode cX7_share 88 = .ok (.aload_n 0, 1) := by decide +kernel
theorem dX7_share_89 : decode cX7_share 89 = .ok (.getfield 10, 3) := by decide +kernel
theorem dX7_share_92 : decode cX7_share 92 = .ok (.getfield 171, 3) := by decide +kernel
theorem dX7_share_95 : decode cX7_share 95 = .ok (.iload_n 2, 1) := by decide +kernel
theorem dX7_share_96 : decode cX7_share 96 = .ok (.iaload, 1) := by decide +kernel
theorem dX7_share_97 : decode cX7_share 97 = .ok (.ireturn, 1) := by decide +kernel
theorem dX7_share_98 : decode cX7_share 98 = .ok (.aload 4, 2) := by decide +kernel
theorem dX7_share_100 : decode cX7_share 100 = .ok (.getfield 174, 3) := by decide +kernel
theorem dX7_share_103 : decode cX7_share 103 = .ok (.iload_n 2, 1) := by decide +kernel
theorem dX7_share_104 : decode cX7_share 104 = .ok (.iaload, 1) := by decide +kernel
theorem dX7_share_105 : decode cX7_share 105 = .ok (.ireturn, 1) := by decide +kernel
theorem dX7_share_106 : decode cX7_share 106 = .ok (.aload_n 0, 1) := by decide +kernel
theorem dX7_share_107 : decode cX7_share 107 = .ok (.getfield 10, 3) := by decide +kernel
theorem dX7_share_110 : decode cX7_share 110 = .ok (.getfield 177, 3) := by decide +kernel
theorem dX7_share_113 : decode cX7_share 113 = .ok (.iload_n 2, 1) := by decide +kernel
theorem dX7_share_114 : decode cX7_share 114 = .ok (.iaload, 1) := by decide +kernel
theorem dX7_share_115 : decode cX7_share 115 = .ok (.ireturn, 1) := by decide +kernel
theorem dX7_share_116 : decode cX7_share 116 = .ok (.aload_n 0, 1) := by decide +kernel
theorem dX7_share_117 : decode cX7_share 117 = .ok (.getfield 10, 3) := by decide +kernel
theorem dX7_share_120 : decode cX7_share 120 = .ok (.getfield 180, 3) := by decide +kernel
theorem dX7_share_123 : decode cX7_share 123 = .ok (.iload_n 2, 1) := by decide +kernel
theorem dX7_share_124 : decode cX7_share 124 = .ok (.iaload, 1) := by decide +kernel
theorem dX7_share_125 : decode cX7_share 125 = .ok (.ireturn, 1) := by decide +kernel
theorem dX7_share_126 : decode cX7_share 126 = .ok (.aload 4, 2) := by decide +kernel
theorem dX7_share_128 : decode cX7_share 128 = .ok (.getfield 183, 3) := by decide +kernel
theorem dX7_share_131 : decode cX7_share 131 = .ok (.iload_n 2, 1) := by decide +kernel
theorem dX7_share_132 : decode cX7_share 132 = .ok (.iaload, 1) := by decide +kernel
theorem dX7_share_133 : decode cX7_share 133 = .ok (.ireturn, 1) := by decide +kernel
theorem dX7_share_134 : decode cX7_share 134 = .ok (.aload 4, 2) := by decide +kernel
theorem dX7_share_136 : decode cX7_share 136 = .ok (.getfield 186, 3) := by decide +kernel
theorem dX7_share_139 : decode cX7_share 139 = .ok (.iload_n 2, 1) := by decide +kernel
theorem dX7_share_140 : decode cX7_share 140 = .ok (.iaload, 1) := by decide +kernel
theorem dX7_share_141 : decode cX7_share 141 = .ok (.ireturn, 1) := by decide +kernel
theorem dX7_share_142 : decode cX7_share 142 = .ok (.aload 4, 2) := by decide +kernel
theorem dX7_share_144 : decode cX7_share 144 = .ok (.iload_n 2, 1) := by decide +kernel
theorem dX7_share_145 : decode cX7_share 145 = .ok (.invokevirtual 189, 3) := by decide +kernel
theorem dX7_share_148 : decode cX7_share 148 = .ok (.ireturn, 1) := by decide +kernel
theorem dX7_share_149 : decode cX7_share 149 = .ok (.aload_n 0, 1) := by decide +kernel
theorem dX7_share_150 : decode cX7_share 150 = .ok (.getfield 10, 3) := by decide +kernel
theorem dX7_share_153 : decode cX7_share 153 = .ok (.getfield 193, 3) := by decide +kernel
theorem dX7_share_156 : decode cX7_share 156 = .ok (.iload_n 2, 1) := by decide +kernel
theorem dX7_share_157 : decode cX7_share 157 = .ok (.iaload, 1) := by decide +kernel
theorem dX7_share_158 : decode cX7_share 158 = .ok (.ireturn, 1) := by decide +kernel
theorem dX7_share_159 : decode cX7_share 159 = .ok (.aload_n 0, 1) := by decide +kernel
theorem dX7_share_160 : decode cX7_share 160 = .ok (.getfield 10, 3) := by decide +kernel
theorem dX7_share_163 : decode cX7_share 163 = .ok (.iload_n 2, 1) := by decide +kernel
theorem dX7_share_164 : decode cX7_share 164 = .ok (.invokevirtual 196, 3) := by decide +kernel
theorem dX7_share_167 : decode cX7_share 167 = .ok (.ireturn, 1) := by decide +kernel
theorem dX7_share_168 : decode cX7_share 168 = .ok (.new 128, 3) := by decide +kernel
theorem dX7_share_171 : decode cX7_share 171 = .ok (.dup, 1) := by decide +kernel
theorem dX7_share_172 : decode cX7_share 172 = .ok (.invokespecial 130, 3) := by decide +kernel
theorem dX7_share_175 : decode cX7_share 175 = .ok (.athrow, 1) := by decide +kernel
theorem gX7_share_X4_burdenOn : GoodIn wtX7_share (wsV RX7 196 RX4 yX4_burdenOn wtX4_burdenOn) := tb_good (tb_v0 wd_588 wd_589 wd_590 wd_16 wd_591)
theorem gX7_share_X6_trueYields : GoodIn wtX7_share (wsV RX7 189 RX6 yX6_trueYields wtX6_trueYields) := tb_good (tb_v0 wd_587 wd_346 wd_347 wd_43 wd_348)
theorem gX7_share_X7_isLoss : GoodIn wtX7_share (wsV RX7 137 RX7 yX7_isLoss wtX7_isLoss) := tb_good (tb_v0 wd_519 wd_520 wd_521 wd_2 wd_522)
theorem gX7_share_X7_isPolicy : GoodIn wtX7_share (wsV RX7 74 RX7 yX7_isPolicy wtX7_isPolicy) := tb_good (tb_v0 wd_186 wd_187 wd_188 wd_2 wd_189)
theorem gX7_share_X7_settle : GoodIn wtX7_share (wsV RX7 140 RX7 yX7_settle wtX7_settle) := tb_good (tb_v0 wd_523 wd_524 wd_525 wd_2 wd_526)
set_option maxHeartbeats 4000000 in
set_option maxRecDepth 100000 in
theorem v_X7_share (l : Launch) (hl9 : l.stackTraces = false) (D : va_G) (cI cJ : ClassId) (sz : Nat) (x x0 x1 x2 x3 x4 x5 s1 s2 s5 s6 s7 s8 s9 s10 s11 b0 b1 b2 b3 b4 b5 b6 b7 b8 b9 b10 b11 w0 w1 w2 w3 w4 w8 d0 d1 d2 wn lv np nl pn : Nat) (si4 si12 si13 bi14 wi6 p0 p1 p2 : Int32) (B0 B1 B2 B3 B4 B6 B8 B10 B11 S5 S6 S7 S8 S9 S10 S11 W0 W1 W2 W3 W4 W8 D0 D1 : Nat → Int32) (D2 : Nat → Int64) (B5 : Nat → Int32) (hwn : wn < 256) (hlv : lv ≤ 8) (hli : ∀ k, k < 10 → ∃ j : Nat, j < 8 ∧ B10 k = nI j) (hnp : np ≤ 8) (hnl : nl ≤ 10) (hpn : pn < 256) : vx_Met l yX7_share wtX7_share { frames := 6, cells := 1, slots := 6, locals := 146 } (cPx D cI cJ [.ref x, .int p0, .int p1, .int p2] sz [(oX7 x x0 x1 x2 x3 x4 x5), (oX4 x1 x0 s1 s2 (nI pn) si4 s5 s6 s7 s8 s9 s10 s11 si12 si13), (oX0 x0 b0 b1 b2 b3 b4 b5 b6 b7 b8 b9 b10 b11 (nI np) (nI nl) bi14), (oX6 s1 w0 w1 w2 w3 w4 (nI wn) wi6 (nI lv) w8), (oX2 s2 d0 d1 d2), (aIc cI b0 8 B0), (aIc cI b1 8 B1), (aIc cI b2 8 B2), (aIc cI b3 8 B3), (aIc cI b4 8 B4), (aIc cI b6 8 B6), (aIc cI b8 64 B8), (aIc cI b10 10 B10), (aIc cI b11 10 B11), (aIc cI s5 8 S5), (aIc cI s6 8 S6), (aIc cI s7 8 S7), (aIc cI s8 8 S8), (aIc cI s9 8 S9), (aIc cI s10 8 S10), (aIc cI s11 8 S11), (aIc cI w0 8 W0), (aIc cI w1 8 W1), (aIc cI w2 8 W2), (aIc cI w3 8 W3), (aIc cI w4 8 W4), (aIc cI w8 8 W8), (aIc cI d0 8 D0), (aIc cI d1 8 D1), (aJc cJ d2 8 D2), (aIc cI b5 8 B5)]) (cQi D (fun r u => ∃ (S5p S6p S7p S8p S9p S10p S11p W1p W2p W3p W4p W8p D0p D1p : Nat → Int32) (D2p : Nat → Int64) (si12p si13p wi6p : Int32) (lvp : Nat) (W0p : Nat → Int32) (si4p : Int32) (wnp pnp : Nat), (lvp ≤ 8) ∧ (wnp < 256) ∧ (pnp < 256) ∧ u = [(oX7 x x0 x1 x2 x3 x4 x5), (oX4 x1 x0 s1 s2 (nI pnp) si4p s5 s6 s7 s8 s9 s10 s11 si12p si13p), (oX0 x0 b0 b1 b2 b3 b4 b5 b6 b7 b8 b9 b10 b11 (nI np) (nI nl) bi14), (oX6 s1 w0 w1 w2 w3 w4 (nI wnp) wi6p (nI lvp) w8), (oX2 s2 d0 d1 d2), (aIc cI b0 8 B0), (aIc cI b1 8 B1), (aIc cI b2 8 B2), (aIc cI b3 8 B3), (aIc cI b4 8 B4), (aIc cI b6 8 B6), (aIc cI b8 64 B8), (aIc cI b10 10 B10), (aIc cI b11 10 B11), (aIc cI s5 8 S5p), (aIc cI s6 8 S6p), (aIc cI s7 8 S7p), (aIc cI s8 8 S8p), (aIc cI s9 8 S9p), (aIc cI s10 8 S10p), (aIc cI s11 8 S11p), (aIc cI w0 8 W0p), (aIc cI w1 8 W1p), (aIc cI w2 8 W2p), (aIc cI w3 8 W3p), (aIc cI w4 8 W4p), (aIc cI w8 8 W8p), (aIc cI d0 8 D0p), (aIc cI d1 8 D1p), (aJc cJ d2 8 D2p), (aIc cI b5 8 B5)]) (va_A [(oX7 x x0 x1 x2 x3 x4 x5), (oX4 x1 x0 s1 s2 (nI pn) si4 s5 s6 s7 s8 s9 s10 s11 si12 si13), (oX0 x0 b0 b1 b2 b3 b4 b5 b6 b7 b8 b9 b10 b11 (nI np) (nI nl) bi14), (oX6 s1 w0 w1 w2 w3 w4 (nI wn) wi6 (nI lv) w8), (oX2 s2 d0 d1 d2), (aIc cI b0 8 B0), (aIc cI b1 8 B1), (aIc cI b2 8 B2), (aIc cI b3 8 B3), (aIc cI b4 8 B4), (aIc cI b6 8 B6), (aIc cI b8 64 B8), (aIc cI b10 10 B10), (aIc cI b11 10 B11), (aIc cI s5 8 S5), (aIc cI s6 8 S6), (aIc cI s7 8 S7), (aIc cI s8 8 S8), (aIc cI s9 8 S9), (aIc cI s10 8 S10), (aIc cI s11 8 S11), (aIc cI w0 8 W0), (aIc cI w1 8 W1), (aIc cI w2 8 W2), (aIc cI w3 8 W3), (aIc cI w4 8 W4), (aIc cI w8 8 W8), (aIc cI d0 8 D0), (aIc cI d1 8 D1), (aJc cJ d2 8 D2), (aIc cI b5 8 B5)] sz)) (xX D (fun u => ∃ (S5p S6p S7p S8p S9p S10p S11p W1p W2p W3p W4p W8p D0p D1p : Nat → Int32) (D2p : Nat → Int64) (si12p si13p wi6p : Int32) (lvp : Nat) (W0p : Nat → Int32) (si4p : Int32) (wnp pnp : Nat), (lvp ≤ 8) ∧ (wnp < 256) ∧ (pnp < 256) ∧ u = [(oX7 x x0 x1 x2 x3 x4 x5), (oX4 x1 x0 s1 s2 (nI pnp) si4p s5 s6 s7 s8 s9 s10 s11 si12p si13p), (oX0 x0 b0 b1 b2 b3 b4 b5 b6 b7 b8 b9 b10 b11 (nI np) (nI nl) bi14), (oX6 s1 w0 w1 w2 w3 w4 (nI wnp) wi6p (nI lvp) w8), (oX2 s2 d0 d1 d2), (aIc cI b0 8 B0), (aIc cI b1 8 B1), (aIc cI b2 8 B2), (aIc cI b3 8 B3), (aIc cI b4 8 B4), (aIc cI b6 8 B6), (aIc cI b8 64 B8), (aIc cI b10 10 B10), (aIc cI b11 10 B11), (aIc cI s5 8 S5p), (aIc cI s6 8 S6p), (aIc cI s7 8 S7p), (aIc cI s8 8 S8p), (aIc cI s9 8 S9p), (aIc cI s10 8 S10p), (aIc cI s11 8 S11p), (aIc cI w0 8 W0p), (aIc cI w1 8 W1p), (aIc cI w2 8 W2p), (aIc cI w3 8 W3p), (aIc cI w4 8 W4p), (aIc cI w8 8 W8p), (aIc cI d0 8 D0p), (aIc cI d1 8 D1p), (aJc cJ d2 8 D2p), (aIc cI b5 8 B5)]) (va_A [(oX7 x x0 x1 x2 x3 x4 x5), (oX4 x1 x0 s1 s2 (nI pn) si4 s5 s6 s7 s8 s9 s10 s11 si12 si13), (oX0 x0 b0 b1 b2 b3 b4 b5 b6 b7 b8 b9 b10 b11 (nI np) (nI nl) bi14), (oX6 s1 w0 w1 w2 w3 w4 (nI wn) wi6 (nI lv) w8), (oX2 s2 d0 d1 d2), (aIc cI b0 8 B0), (aIc cI b1 8 B1), (aIc cI b2 8 B2), (aIc cI b3 8 B3), (aIc cI b4 8 B4), (aIc cI b6 8 B6), (aIc cI b8 64 B8), (aIc cI b10 10 B10), (aIc cI b11 10 B11), (aIc cI s5 8 S5), (aIc cI s6 8 S6), (aIc cI s7 8 S7), (aIc cI s8 8 S8), (aIc cI s9 8 S9), (aIc cI s10 8 S10), (aIc cI s11 8 S11), (aIc cI w0 8 W0), (aIc cI w1 8 W1), (aIc cI w2 8 W2), (aIc cI w3 8 W3), (aIc cI w4 8 W4), (aIc cI w8 8 W8), (aIc cI d0 8 D0), (aIc cI d1 8 D1), (aJc cJ d2 8 D2), (aIc cI b5 8 B5)] sz)) 1 6 (va_A [(oX7 x x0 x1 x2 x3 x4 x5), (oX4 x1 x0 s1 s2 (nI pn) si4 s5 s6 s7 s8 s9 s10 s11 si12 si13), (oX0 x0 b0 b1 b2 b3 b4 b5 b6 b7 b8 b9 b10 b11 (nI np) (nI nl) bi14), (oX6 s1 w0 w1 w2 w3 w4 (nI wn) wi6 (nI lv) w8), (oX2 s2 d0 d1 d2), (aIc cI b0 8 B0), (aIc cI b1 8 B1), (aIc cI b2 8 B2), (aIc cI b3 8 B3), (aIc cI b4 8 B4), (aIc cI b6 8 B6), (aIc cI b8 64 B8), (aIc cI b10 10 B10), (aIc cI b11 10 B11), (aIc cI s5 8 S5), (aIc cI s6 8 S6), (aIc cI s7 8 S7), (aIc cI s8 8 S8), (aIc cI s9 8 S9), (aIc cI s10 8 S10), (aIc cI s11 8 S11), (aIc cI w0 8 W0), (aIc cI w1 8 W1), (aIc cI w2 8 W2), (aIc cI w3 8 W3), (aIc cI w4 8 W4), (aIc cI w8 8 W8), (aIc cI d0 8 D0), (aIc cI d1 8 D1), (aJc cJ d2 8 D2), (aIc cI b5 8 B5)] sz) := by
  refine vx_ofW (cc := cX7_share) (maxL := 5) (ret := some .int) (by decide) rfl ?_
  intro p e s m args below meth c s₁ B hml htab hv
  obtain ⟨rfl, ⟨hsz, hP, hE, hD0⟩, hXw⟩ := hv
  have hx := B.exec
  have hb := B.bytes
  have hr := B.returns
  have hlk := B.notSynchronized
  have hts := atoms_spec (ws := wtX7_share) B.pre
  have hown : s.vm.findClass RX7 = some m.cls := findClass_of_methodNamed B.named
  subst hsz
  have hD := hD0.self (sz := s.heap.size)
  generalize hAe : va_A [(oX7 x x0 x1 x2 x3 x4 x5), (oX4 x1 x0 s1 s2 (nI pn) si4 s5 s6 s7 s8 s9 s10 s11 si12 si13), (oX0 x0 b0 b1 b2 b3 b4 b5 b6 b7 b8 b9 b10 b11 (nI np) (nI nl) bi14), (oX6 s1 w0 w1 w2 w3 w4 (nI wn) wi6 (nI lv) w8), (oX2 s2 d0 d1 d2), (aIc cI b0 8 B0), (aIc cI b1 8 B1), (aIc cI b2 8 B2), (aIc cI b3 8 B3), (aIc cI b4 8 B4), (aIc cI b6 8 B6), (aIc cI b8 64 B8), (aIc cI b10 10 B10), (aIc cI b11 10 B11), (aIc cI s5 8 S5), (aIc cI s6 8 S6), (aIc cI s7 8 S7), (aIc cI s8 8 S8), (aIc cI s9 8 S9), (aIc cI s10 8 S10), (aIc cI s11 8 S11), (aIc cI w0 8 W0), (aIc cI w1 8 W1), (aIc cI w2 8 W2), (aIc cI w3 8 W3), (aIc cI w4 8 W4), (aIc cI w8 8 W8), (aIc cI d0 8 D0), (aIc cI d1 8 D1), (aJc cJ d2 8 D2), (aIc cI b5 8 B5)] s.heap.size = A at hD hXw ⊢
  have hA : ∀ q : Nat, s.heap.size ≤ q → A q := fun q h => by rw [← hAe]; exact Or.inr h
  have hS : va_S A s.heap s.heap [] := va_S.rf
  have hl := lv_entry [.ref x, .int p0, .int p1, .int p2] (n := 5) (Nat.le_of_ble_eq_true rfl)
  rw [lg_entry_eq]
  generalize (lg_sl [.ref x, .int p0, .int p1, .int p2] ++ List.replicate (5 - (lg_sl [.ref x, .int p0, .int p1, .int p2]).length) Slot.unset).toArray = ls at hl ⊢
  have hl : lv_has ls 5 [(0, .ref x), (1, .int p0), (2, .int p1), (3, .int p2)] := hl
  have hiX7 : ∀ w ∈ u_ws RX7 TX7 6, w ∈ wtX7_share := fun w h => List.mem_cons_of_mem _ (iuX7 w h)
  have hiX4 : ∀ w ∈ u_ws RX4 TX4 14, w ∈ wtX7_share := fun w h => List.mem_cons_of_mem _ (iuX4 w h)
  have hiX6 : ∀ w ∈ u_ws RX6 TX6 9, w ∈ wtX7_share := fun w h => List.mem_cons_of_mem _ (iuX6 w h)
  refine lv_aload_n hx hb dX7_share_0 rfl (lv_at hl 0 rfl) ?_
  refine lv_iload_n hx hb dX7_share_1 rfl (lv_at hl 1 rfl) ?_
  refine k_iS (va_runV (As := [.int p0]) (rest := []) ⟨hx, hb, hml, hown, hts⟩ (m_X7_isLoss l D cI cJ (s.heap).size x x0 x1 x2 x3 x4 x5 b0 b1 b2 b3 b4 b5 b6 b7 b8 b9 b10 b11 (nI np) (nI nl) bi14 p0) (cwV 1 hts gX7_share_X7_isLoss rfl rfl rfl (by decide +kernel) ⟨Nat.le_of_ble_eq_true rfl, Nat.le_of_ble_eq_true rfl⟩) (k_preV hE hP hD [0, 2] (by decide +kernel) rfl 0 rfl rfl) rfl rfl hl.1 rfl (lv_room (Nat.le_of_ble_eq_true rfl)) dX7_share_2 ⟨Nat.le_of_ble_eq_true rfl, Nat.le_of_ble_eq_true rfl⟩) hP hD hS hA [0, 2] rfl (fun _ _ h9 => h9.2) (fun r1 H locs hw2 hP hD hS => ?_)
  obtain ⟨hw2, -⟩ := hw2
  refine lv_if_eq (tgt := 16) hx hb dX7_share_5 (by decide) (fun c3 => ?_) (fun c3 => ?_)
  · skip
    have hc3 : ¬ (0 ≤ p0 ∧ p0 ≤ (nI nl) - 1) := bz_0 hw2 c3
    have hat : ∀ w ∈ vx_at0 RX7 130 NSE NSN, w.before [.ref x, .int p0, .int p1, .int p2].toArray s = true := vx_hat (B := xB) (fun w h => hts w (List.mem_cons_of_mem _ (tbx w h))) (by decide +kernel) hXw.use
    have hPu : va_P D vwCl [(oX7 x x0 x1 x2 x3 x4 x5), (oX4 x1 x0 s1 s2 (nI pn) si4 s5 s6 s7 s8 s9 s10 s11 si12 si13), (oX0 x0 b0 b1 b2 b3 b4 b5 b6 b7 b8 b9 b10 b11 (nI np) (nI nl) bi14), (oX6 s1 w0 w1 w2 w3 w4 (nI wn) wi6 (nI lv) w8), (oX2 s2 d0 d1 d2), (aIc cI b0 8 B0), (aIc cI b1 8 B1), (aIc cI b2 8 B2), (aIc cI b3 8 B3), (aIc cI b4 8 B4), (aIc cI b6 8 B6), (aIc cI b8 64 B8), (aIc cI b10 10 B10), (aIc cI b11 10 B11), (aIc cI s5 8 S5), (aIc cI s6 8 S6), (aIc cI s7 8 S7), (aIc cI s8 8 S8), (aIc cI s9 8 S9), (aIc cI s10 8 S10), (aIc cI s11 8 S11), (aIc cI w0 8 W0), (aIc cI w1 8 W1), (aIc cI w2 8 W2), (aIc cI w3 8 W3), (aIc cI w4 8 W4), (aIc cI w8 8 W8), (aIc cI d0 8 D0), (aIc cI d1 8 D1), (aJc cJ d2 8 D2), (aIc cI b5 8 B5)] H := hP
    have hDu : va_D A [(oX7 x x0 x1 x2 x3 x4 x5), (oX4 x1 x0 s1 s2 (nI pn) si4 s5 s6 s7 s8 s9 s10 s11 si12 si13), (oX0 x0 b0 b1 b2 b3 b4 b5 b6 b7 b8 b9 b10 b11 (nI np) (nI nl) bi14), (oX6 s1 w0 w1 w2 w3 w4 (nI wn) wi6 (nI lv) w8), (oX2 s2 d0 d1 d2), (aIc cI b0 8 B0), (aIc cI b1 8 B1), (aIc cI b2 8 B2), (aIc cI b3 8 B3), (aIc cI b4 8 B4), (aIc cI b6 8 B6), (aIc cI b8 64 B8), (aIc cI b10 10 B10), (aIc cI b11 10 B11), (aIc cI s5 8 S5), (aIc cI s6 8 S6), (aIc cI s7 8 S7), (aIc cI s8 8 S8), (aIc cI s9 8 S9), (aIc cI s10 8 S10), (aIc cI s11 8 S11), (aIc cI w0 8 W0), (aIc cI w1 8 W1), (aIc cI w2 8 W2), (aIc cI w3 8 W3), (aIc cI w4 8 W4), (aIc cI w8 8 W8), (aIc cI d0 8 D0), (aIc cI d1 8 D1), (aJc cJ d2 8 D2), (aIc cI b5 8 B5)] := hD
    exact vx_throw0 (cls := NSE) (names := NSN) (ik := 128) (ic := 130) (mc := 1) (ms := 6) hx hb hl9 hown (by decide +kernel) (by decide +kernel) (hts _ (List.mem_cons_of_mem _ wd_495)) (hts _ (List.mem_cons_of_mem _ wd_496)) hat (by decide +kernel) hXw.2.1 hXw.2.2 hS (hl.1.trans hml.symm) dX7_share_16 dX7_share_19 dX7_share_20 dX7_share_23 (fun x hx9 => (htab x hx9).elim) (Nat.le_of_ble_eq_true rfl) (Nat.le_of_ble_eq_true rfl) (Nat.le_of_ble_eq_true rfl) (Nat.le_of_ble_eq_true rfl) hlk (fun t _ hz hk => ⟨[(oX7 x x0 x1 x2 x3 x4 x5), (oX4 x1 x0 s1 s2 (nI pn) si4 s5 s6 s7 s8 s9 s10 s11 si12 si13), (oX0 x0 b0 b1 b2 b3 b4 b5 b6 b7 b8 b9 b10 b11 (nI np) (nI nl) bi14), (oX6 s1 w0 w1 w2 w3 w4 (nI wn) wi6 (nI lv) w8), (oX2 s2 d0 d1 d2), (aIc cI b0 8 B0), (aIc cI b1 8 B1), (aIc cI b2 8 B2), (aIc cI b3 8 B3), (aIc cI b4 8 B4), (aIc cI b6 8 B6), (aIc cI b8 64 B8), (aIc cI b10 10 B10), (aIc cI b11 10 B11), (aIc cI s5 8 S5), (aIc cI s6 8 S6), (aIc cI s7 8 S7), (aIc cI s8 8 S8), (aIc cI s9 8 S9), (aIc cI s10 8 S10), (aIc cI s11 8 S11), (aIc cI w0 8 W0), (aIc cI w1 8 W1), (aIc cI w2 8 W2), (aIc cI w3 8 W3), (aIc cI w4 8 W4), (aIc cI w8 8 W8), (aIc cI d0 8 D0), (aIc cI d1 8 D1), (aJc cJ d2 8 D2), (aIc cI b5 8 B5)], ⟨S5, S6, S7, S8, S9, S10, S11, W1, W2, W3, W4, W8, D0, D1, D2, si12, si13, wi6, lv, W0, si4, wn, pn, (by omega), (by omega), (by first | omega | exact ev_lt hnp), rfl⟩, ⟨rfl, hPu.kept (fun k q hq => hk q.1 (hPu k q hq).lt), hDu⟩, ⟨Nat.le_trans hS.1 hz, fun q h1 h2 => (hk q (Nat.lt_of_lt_of_le h1 hS.1)).trans (hS.2.1 q h1 h2)⟩⟩) hS.2.2 (Nat.le_of_ble_eq_true rfl) (Nat.le_of_ble_eq_true rfl)
  · skip
    have hc3 : 0 ≤ p0 ∧ p0 ≤ (nI nl) - 1 := bz_1 hw2 c3
    refine lv_aload_n hx hb dX7_share_8 rfl (lv_at hl 0 rfl) ?_
    refine lv_iload_n hx hb dX7_share_9 rfl (lv_at hl 2 rfl) ?_
    refine k_iS (va_runV (As := [.int p1]) (rest := []) ⟨hx, hb, hml, hown, hts⟩ (m_X7_isPolicy l D cI cJ H.size x x0 x1 x2 x3 x4 x5 b0 b1 b2 b3 b4 b5 b6 b7 b8 b9 b10 b11 (nI np) (nI nl) bi14 p1) (cwV 1 hts gX7_share_X7_isPolicy rfl rfl rfl (by decide +kernel) ⟨Nat.le_of_ble_eq_true rfl, Nat.le_of_ble_eq_true rfl⟩) (k_preV hE hP hD [0, 2] (by decide +kernel) rfl 0 rfl rfl) rfl rfl hl.1 rfl (lv_room (Nat.le_of_ble_eq_true rfl)) dX7_share_10 ⟨Nat.le_of_ble_eq_true rfl, Nat.le_of_ble_eq_true rfl⟩) hP hD hS hA [0, 2] rfl (fun _ _ h9 => h9.2) (fun r4 H locs hw5 hP hD hS => ?_)
    obtain ⟨hw5, -⟩ := hw5
    refine lv_if_ne (tgt := 24) hx hb dX7_share_13 (by decide) (fun c6 => ?_) (fun c6 => ?_)
    · skip
      have hc6 : 0 ≤ p1 ∧ p1 ≤ (nI np) - 1 := bz_1 hw5 c6
      obtain ⟨lj, hlj, elj⟩ := wi_n (by omega) hc3
      rw [elj] at hl
      obtain ⟨pj, hpj, epj⟩ := wi_n (by omega) hc6
      rw [epj] at hl
      refine lv_aload_n hx hb dX7_share_24 rfl (lv_at hl 0 rfl) ?_
      refine lv_iload_n hx hb dX7_share_25 rfl (lv_at hl 1 rfl) ?_
      refine k_v (va_runV (As := [.int (nI lj)]) (rest := []) ⟨hx, hb, hml, hown, hts⟩ (m_X7_settle l D cI cJ H.size x x0 x1 x2 x3 x4 x5 s1 s2 s5 s6 s7 s8 s9 s10 s11 b0 b1 b2 b3 b4 b5 b6 b7 b8 b9 b10 b11 w0 w1 w2 w3 w4 w8 d0 d1 d2 wn lv np nl pn si4 si12 si13 bi14 wi6 (nI lj) B0 B1 B2 B3 B4 B6 B8 B10 B11 S5 S6 S7 S8 S9 S10 S11 W0 W1 W2 W3 W4 W8 D0 D1 D2 B5 (by omega) (by omega) (by omega) (by omega) (by omega) (by omega)) (cwV 1 hts gX7_share_X7_settle rfl rfl rfl (by decide +kernel) ⟨Nat.le_of_ble_eq_true rfl, Nat.le_of_ble_eq_true rfl⟩) (k_preV hE hP hD [0, 1, 2, 3, 4, 5, 6, 7, 8, 9, 10, 11, 12, 13, 14, 15, 16, 17, 18, 19, 20, 21, 22, 23, 24, 25, 26, 27, 28, 29, 30] (by decide +kernel) rfl 0 rfl rfl) rfl rfl hl.1 rfl (lv_room (Nat.le_of_ble_eq_true rfl)) dX7_share_26 ⟨Nat.le_of_ble_eq_true rfl, Nat.le_of_ble_eq_true rfl⟩) hP hD hS hA [0, 1, 2, 3, 4, 5, 6, 7, 8, 9, 10, 11, 12, 13, 14, 15, 16, 17, 18, 19, 20, 21, 22, 23, 24, 25, 26, 27, 28, 29, 30] [] rfl (wr := []) rfl (by decide +kernel) (by decide +kernel) (fun u H locs hw7 hP hD hS => ?_)
      obtain ⟨z8, z9, z10, z11, z12, z13, z14, z15, z16, z17, z18, z19, z20, z21, z22, z23, z24, z25, z26, z27, z28, z29, z30, hz31, hz32, hz33, rfl⟩ := hw7
      refine k_re (w := [(oX7 x x0 x1 x2 x3 x4 x5), (oX4 x1 x0 s1 s2 (nI z30) z28 s5 s6 s7 s8 s9 s10 s11 z23 z24), (oX0 x0 b0 b1 b2 b3 b4 b5 b6 b7 b8 b9 b10 b11 (nI np) (nI nl) bi14), (oX6 s1 w0 w1 w2 w3 w4 (nI z29) z25 (nI z26) w8), (oX2 s2 d0 d1 d2), (aIc cI b0 8 B0), (aIc cI b1 8 B1), (aIc cI b2 8 B2), (aIc cI b3 8 B3), (aIc cI b4 8 B4), (aIc cI b6 8 B6), (aIc cI b8 64 B8), (aIc cI b10 10 B10), (aIc cI b11 10 B11), (aIc cI s5 8 z8), (aIc cI s6 8 z9), (aIc cI s7 8 z10), (aIc cI s8 8 z11), (aIc cI s9 8 z12), (aIc cI s10 8 z13), (aIc cI s11 8 z14), (aIc cI w0 8 z27), (aIc cI w1 8 z15), (aIc cI w2 8 z16), (aIc cI w3 8 z17), (aIc cI w4 8 z18), (aIc cI w8 8 z19), (aIc cI d0 8 z20), (aIc cI d1 8 z21), (aJc cJ d2 8 z22), (aIc cI b5 8 B5)]) hP hD (fun hP hD => ?_)
      refine lv_aload_n hx hb dX7_share_29 rfl (lv_at hl 0 rfl) ?_
      refine va_get (D := D) (ci := 7) (v := .ref x1) (C := RX7) (T := TX7) (N := 6) hx hb hts hiX7 hown hE.1 hP 0 rfl rfl 1 (by decide) (hts _ (List.mem_cons_of_mem _ wd_17)) (fun _ h9 => h9) rfl dX7_share_30 ?_
      refine va_get (D := D) (ci := 4) (v := .ref s1) (C := RX4) (T := TX4) (N := 14) hx hb hts hiX4 hown hE.1 hP 1 rfl rfl 1 (by decide) (hts _ (List.mem_cons_of_mem _ wd_514)) (fun _ h9 => h9) rfl dX7_share_33 ?_
      refine lv_astore (lv' := [(4, .ref s1), (0, .ref x), (1, .int (nI lj)), (2, .int (nI pj)), (3, .int p2)]) hx hb dX7_share_36 hl (by decide) rfl (fun ls hl => ?_)
      refine lv_iload_n hx hb dX7_share_38 rfl (lv_at hl 4 rfl) ?_
      by_cases c34 : p2 = 0
      · skip
        refine lv_tableIn (tgt := 88) hx hb dX7_share_39 (by rw [c34]; decide) (by rw [c34]; decide) (off := 49) (by rw [c34]; rfl) (by decide) ?_
        refine lv_aload_n hx hb dX7_share_88 rfl (lv_at hl 1 rfl) ?_
        refine va_get (D := D) (ci := 7) (v := .ref x1) (C := RX7) (T := TX7) (N := 6) hx hb hts hiX7 hown hE.1 hP 0 rfl rfl 1 (by decide) (hts _ (List.mem_cons_of_mem _ wd_17)) (fun _ h9 => h9) rfl dX7_share_89 ?_
        refine va_get (D := D) (ci := 4) (v := .ref s8) (C := RX4) (T := TX4) (N := 14) hx hb hts hiX4 hown hE.1 hP 1 rfl rfl 8 (by decide) (hts _ (List.mem_cons_of_mem _ wd_580)) (fun _ h9 => h9) rfl dX7_share_92 ?_
        refine lv_iload_n hx hb dX7_share_95 rfl (lv_at hl 3 rfl) ?_
        refine va_iald hx hb hE.1 hP 17 0 rfl rfl (vp_in_nI (n := pj) (by omega) (by decide)) dX7_share_96 ?_
        refine lv_topi (fun v35 ev35 => ?_)
        refine vx_ret ?_
        refine W.widen (k := 1) (n := 6) (Nat.le_of_ble_eq_true rfl) (Nat.le_of_ble_eq_true rfl) ?_
        refine k_iret (u := [(oX7 x x0 x1 x2 x3 x4 x5), (oX4 x1 x0 s1 s2 (nI z30) z28 s5 s6 s7 s8 s9 s10 s11 z23 z24), (oX0 x0 b0 b1 b2 b3 b4 b5 b6 b7 b8 b9 b10 b11 (nI np) (nI nl) bi14), (oX6 s1 w0 w1 w2 w3 w4 (nI z29) z25 (nI z26) w8), (oX2 s2 d0 d1 d2), (aIc cI b0 8 B0), (aIc cI b1 8 B1), (aIc cI b2 8 B2), (aIc cI b3 8 B3), (aIc cI b4 8 B4), (aIc cI b6 8 B6), (aIc cI b8 64 B8), (aIc cI b10 10 B10), (aIc cI b11 10 B11), (aIc cI s5 8 z8), (aIc cI s6 8 z9), (aIc cI s7 8 z10), (aIc cI s8 8 z11), (aIc cI s9 8 z12), (aIc cI s10 8 z13), (aIc cI s11 8 z14), (aIc cI w0 8 z27), (aIc cI w1 8 z15), (aIc cI w2 8 z16), (aIc cI w3 8 z17), (aIc cI w4 8 z18), (aIc cI w8 8 z19), (aIc cI d0 8 z20), (aIc cI d1 8 z21), (aJc cJ d2 8 z22), (aIc cI b5 8 B5)]) hx hb hr hlk hP hD hS dX7_share_97 ?_
        exact ⟨z8, z9, z10, z11, z12, z13, z14, z15, z16, z17, z18, z19, z20, z21, z22, z23, z24, z25, z26, z27, z28, z29, z30, (by omega), (by omega), (by first | omega | exact ev_lt hnp), rfl⟩
      by_cases c36 : p2 = 1
      · skip
        refine lv_tableIn (tgt := 98) hx hb dX7_share_39 (by rw [c36]; decide) (by rw [c36]; decide) (off := 59) (by rw [c36]; rfl) (by decide) ?_
        refine lv_aload hx hb dX7_share_98 (lv_at hl 0 rfl) ?_
        refine va_get (D := D) (ci := 6) (v := .ref w3) (C := RX6) (T := TX6) (N := 9) hx hb hts hiX6 hown hE.1 hP 3 rfl rfl 3 (by decide) (hts _ (List.mem_cons_of_mem _ wd_581)) (fun _ h9 => h9) rfl dX7_share_100 ?_
        refine lv_iload_n hx hb dX7_share_103 rfl (lv_at hl 3 rfl) ?_
        refine va_iald hx hb hE.1 hP 24 0 rfl rfl (vp_in_nI (n := pj) (by omega) (by decide)) dX7_share_104 ?_
        refine lv_topi (fun v37 ev37 => ?_)
        refine vx_ret ?_
        refine W.widen (k := 1) (n := 6) (Nat.le_of_ble_eq_true rfl) (Nat.le_of_ble_eq_true rfl) ?_
        refine k_iret (u := [(oX7 x x0 x1 x2 x3 x4 x5), (oX4 x1 x0 s1 s2 (nI z30) z28 s5 s6 s7 s8 s9 s10 s11 z23 z24), (oX0 x0 b0 b1 b2 b3 b4 b5 b6 b7 b8 b9 b10 b11 (nI np) (nI nl) bi14), (oX6 s1 w0 w1 w2 w3 w4 (nI z29) z25 (nI z26) w8), (oX2 s2 d0 d1 d2), (aIc cI b0 8 B0), (aIc cI b1 8 B1), (aIc cI b2 8 B2), (aIc cI b3 8 B3), (aIc cI b4 8 B4), (aIc cI b6 8 B6), (aIc cI b8 64 B8), (aIc cI b10 10 B10), (aIc cI b11 10 B11), (aIc cI s5 8 z8), (aIc cI s6 8 z9), (aIc cI s7 8 z10), (aIc cI s8 8 z11), (aIc cI s9 8 z12), (aIc cI s10 8 z13), (aIc cI s11 8 z14), (aIc cI w0 8 z27), (aIc cI w1 8 z15), (aIc cI w2 8 z16), (aIc cI w3 8 z17), (aIc cI w4 8 z18), (aIc cI w8 8 z19), (aIc cI d0 8 z20), (aIc cI d1 8 z21), (aJc cJ d2 8 z22), (aIc cI b5 8 B5)]) hx hb hr hlk hP hD hS dX7_share_105 ?_
        exact ⟨z8, z9, z10, z11, z12, z13, z14, z15, z16, z17, z18, z19, z20, z21, z22, z23, z24, z25, z26, z27, z28, z29, z30, (by omega), (by omega), (by first | omega | exact ev_lt hnp), rfl⟩
      by_cases c38 : p2 = 2
      · skip
        refine lv_tableIn (tgt := 106) hx hb dX7_share_39 (by rw [c38]; decide) (by rw [c38]; decide) (off := 67) (by rw [c38]; rfl) (by decide) ?_
        refine lv_aload_n hx hb dX7_share_106 rfl (lv_at hl 1 rfl) ?_
        refine va_get (D := D) (ci := 7) (v := .ref x1) (C := RX7) (T := TX7) (N := 6) hx hb hts hiX7 hown hE.1 hP 0 rfl rfl 1 (by decide) (hts _ (List.mem_cons_of_mem _ wd_17)) (fun _ h9 => h9) rfl dX7_share_107 ?_
        refine va_get (D := D) (ci := 4) (v := .ref s9) (C := RX4) (T := TX4) (N := 14) hx hb hts hiX4 hown hE.1 hP 1 rfl rfl 9 (by decide) (hts _ (List.mem_cons_of_mem _ wd_582)) (fun _ h9 => h9) rfl dX7_share_110 ?_
        refine lv_iload_n hx hb dX7_share_113 rfl (lv_at hl 3 rfl) ?_
        refine va_iald hx hb hE.1 hP 18 0 rfl rfl (vp_in_nI (n := pj) (by omega) (by decide)) dX7_share_114 ?_
        refine lv_topi (fun v39 ev39 => ?_)
        refine vx_ret ?_
        refine W.widen (k := 1) (n := 6) (Nat.le_of_ble_eq_true rfl) (Nat.le_of_ble_eq_true rfl) ?_
        refine k_iret (u := [(oX7 x x0 x1 x2 x3 x4 x5), (oX4 x1 x0 s1 s2 (nI z30) z28 s5 s6 s7 s8 s9 s10 s11 z23 z24), (oX0 x0 b0 b1 b2 b3 b4 b5 b6 b7 b8 b9 b10 b11 (nI np) (nI nl) bi14), (oX6 s1 w0 w1 w2 w3 w4 (nI z29) z25 (nI z26) w8), (oX2 s2 d0 d1 d2), (aIc cI b0 8 B0), (aIc cI b1 8 B1), (aIc cI b2 8 B2), (aIc cI b3 8 B3), (aIc cI b4 8 B4), (aIc cI b6 8 B6), (aIc cI b8 64 B8), (aIc cI b10 10 B10), (aIc cI b11 10 B11), (aIc cI s5 8 z8), (aIc cI s6 8 z9), (aIc cI s7 8 z10), (aIc cI s8 8 z11), (aIc cI s9 8 z12), (aIc cI s10 8 z13), (aIc cI s11 8 z14), (aIc cI w0 8 z27), (aIc cI w1 8 z15), (aIc cI w2 8 z16), (aIc cI w3 8 z17), (aIc cI w4 8 z18), (aIc cI w8 8 z19), (aIc cI d0 8 z20), (aIc cI d1 8 z21), (aJc cJ d2 8 z22), (aIc cI b5 8 B5)]) hx hb hr hlk hP hD hS dX7_share_115 ?_
        exact ⟨z8, z9, z10, z11, z12, z13, z14, z15, z16, z17, z18, z19, z20, z21, z22, z23, z24, z25, z26, z27, z28, z29, z30, (by omega), (by omega), (by first | omega | exact ev_lt hnp), rfl⟩
      by_cases c40 : p2 = 3
      · skip
        refine lv_tableIn (tgt := 116) hx hb dX7_share_39 (by rw [c40]; decide) (by rw [c40]; decide) (off := 77) (by rw [c40]; rfl) (by decide) ?_
        refine lv_aload_n hx hb dX7_share_116 rfl (lv_at hl 1 rfl) ?_
        refine va_get (D := D) (ci := 7) (v := .ref x1) (C := RX7) (T := TX7) (N := 6) hx hb hts hiX7 hown hE.1 hP 0 rfl rfl 1 (by decide) (hts _ (List.mem_cons_of_mem _ wd_17)) (fun _ h9 => h9) rfl dX7_share_117 ?_
        refine va_get (D := D) (ci := 4) (v := .ref s10) (C := RX4) (T := TX4) (N := 14) hx hb hts hiX4 hown hE.1 hP 1 rfl rfl 10 (by decide) (hts _ (List.mem_cons_of_mem _ wd_583)) (fun _ h9 => h9) rfl dX7_share_120 ?_
        refine lv_iload_n hx hb dX7_share_123 rfl (lv_at hl 3 rfl) ?_
        refine va_iald hx hb hE.1 hP 19 0 rfl rfl (vp_in_nI (n := pj) (by omega) (by decide)) dX7_share_124 ?_
        refine lv_topi (fun v41 ev41 => ?_)
        refine vx_ret ?_
        refine W.widen (k := 1) (n := 6) (Nat.le_of_ble_eq_true rfl) (Nat.le_of_ble_eq_true rfl) ?_
        refine k_iret (u := [(oX7 x x0 x1 x2 x3 x4 x5), (oX4 x1 x0 s1 s2 (nI z30) z28 s5 s6 s7 s8 s9 s10 s11 z23 z24), (oX0 x0 b0 b1 b2 b3 b4 b5 b6 b7 b8 b9 b10 b11 (nI np) (nI nl) bi14), (oX6 s1 w0 w1 w2 w3 w4 (nI z29) z25 (nI z26) w8), (oX2 s2 d0 d1 d2), (aIc cI b0 8 B0), (aIc cI b1 8 B1), (aIc cI b2 8 B2), (aIc cI b3 8 B3), (aIc cI b4 8 B4), (aIc cI b6 8 B6), (aIc cI b8 64 B8), (aIc cI b10 10 B10), (aIc cI b11 10 B11), (aIc cI s5 8 z8), (aIc cI s6 8 z9), (aIc cI s7 8 z10), (aIc cI s8 8 z11), (aIc cI s9 8 z12), (aIc cI s10 8 z13), (aIc cI s11 8 z14), (aIc cI w0 8 z27), (aIc cI w1 8 z15), (aIc cI w2 8 z16), (aIc cI w3 8 z17), (aIc cI w4 8 z18), (aIc cI w8 8 z19), (aIc cI d0 8 z20), (aIc cI d1 8 z21), (aJc cJ d2 8 z22), (aIc cI b5 8 B5)]) hx hb hr hlk hP hD hS dX7_share_125 ?_
        exact ⟨z8, z9, z10, z11, z12, z13, z14, z15, z16, z17, z18, z19, z20, z21, z22, z23, z24, z25, z26, z27, z28, z29, z30, (by omega), (by omega), (by first | omega | exact ev_lt hnp), rfl⟩
      by_cases c42 : p2 = 4
      · skip
        refine lv_tableIn (tgt := 126) hx hb dX7_share_39 (by rw [c42]; decide) (by rw [c42]; decide) (off := 87) (by rw [c42]; rfl) (by decide) ?_
        refine lv_aload hx hb dX7_share_126 (lv_at hl 0 rfl) ?_
        refine va_get (D := D) (ci := 6) (v := .ref w2) (C := RX6) (T := TX6) (N := 9) hx hb hts hiX6 hown hE.1 hP 3 rfl rfl 2 (by decide) (hts _ (List.mem_cons_of_mem _ wd_584)) (fun _ h9 => h9) rfl dX7_share_128 ?_
        refine lv_iload_n hx hb dX7_share_131 rfl (lv_at hl 3 rfl) ?_
        refine va_iald hx hb hE.1 hP 23 0 rfl rfl (vp_in_nI (n := pj) (by omega) (by decide)) dX7_share_132 ?_
        refine lv_topi (fun v43 ev43 => ?_)
        refine vx_ret ?_
        refine W.widen (k := 1) (n := 6) (Nat.le_of_ble_eq_true rfl) (Nat.le_of_ble_eq_true rfl) ?_
        refine k_iret (u := [(oX7 x x0 x1 x2 x3 x4 x5), (oX4 x1 x0 s1 s2 (nI z30) z28 s5 s6 s7 s8 s9 s10 s11 z23 z24), (oX0 x0 b0 b1 b2 b3 b4 b5 b6 b7 b8 b9 b10 b11 (nI np) (nI nl) bi14), (oX6 s1 w0 w1 w2 w3 w4 (nI z29) z25 (nI z26) w8), (oX2 s2 d0 d1 d2), (aIc cI b0 8 B0), (aIc cI b1 8 B1), (aIc cI b2 8 B2), (aIc cI b3 8 B3), (aIc cI b4 8 B4), (aIc cI b6 8 B6), (aIc cI b8 64 B8), (aIc cI b10 10 B10), (aIc cI b11 10 B11), (aIc cI s5 8 z8), (aIc cI s6 8 z9), (aIc cI s7 8 z10), (aIc cI s8 8 z11), (aIc cI s9 8 z12), (aIc cI s10 8 z13), (aIc cI s11 8 z14), (aIc cI w0 8 z27), (aIc cI w1 8 z15), (aIc cI w2 8 z16), (aIc cI w3 8 z17), (aIc cI w4 8 z18), (aIc cI w8 8 z19), (aIc cI d0 8 z20), (aIc cI d1 8 z21), (aJc cJ d2 8 z22), (aIc cI b5 8 B5)]) hx hb hr hlk hP hD hS dX7_share_133 ?_
        exact ⟨z8, z9, z10, z11, z12, z13, z14, z15, z16, z17, z18, z19, z20, z21, z22, z23, z24, z25, z26, z27, z28, z29, z30, (by omega), (by omega), (by first | omega | exact ev_lt hnp), rfl⟩
      by_cases c44 : p2 = 5
      · skip
        refine lv_tableIn (tgt := 134) hx hb dX7_share_39 (by rw [c44]; decide) (by rw [c44]; decide) (off := 95) (by rw [c44]; rfl) (by decide) ?_
        refine lv_aload hx hb dX7_share_134 (lv_at hl 0 rfl) ?_
        refine va_get (D := D) (ci := 6) (v := .ref w1) (C := RX6) (T := TX6) (N := 9) hx hb hts hiX6 hown hE.1 hP 3 rfl rfl 1 (by decide) (hts _ (List.mem_cons_of_mem _ wd_585)) (fun _ h9 => h9) rfl dX7_share_136 ?_
        refine lv_iload_n hx hb dX7_share_139 rfl (lv_at hl 3 rfl) ?_
        refine va_iald hx hb hE.1 hP 22 0 rfl rfl (vp_in_nI (n := pj) (by omega) (by decide)) dX7_share_140 ?_
        refine lv_topi (fun v45 ev45 => ?_)
        refine vx_ret ?_
        refine W.widen (k := 1) (n := 6) (Nat.le_of_ble_eq_true rfl) (Nat.le_of_ble_eq_true rfl) ?_
        refine k_iret (u := [(oX7 x x0 x1 x2 x3 x4 x5), (oX4 x1 x0 s1 s2 (nI z30) z28 s5 s6 s7 s8 s9 s10 s11 z23 z24), (oX0 x0 b0 b1 b2 b3 b4 b5 b6 b7 b8 b9 b10 b11 (nI np) (nI nl) bi14), (oX6 s1 w0 w1 w2 w3 w4 (nI z29) z25 (nI z26) w8), (oX2 s2 d0 d1 d2), (aIc cI b0 8 B0), (aIc cI b1 8 B1), (aIc cI b2 8 B2), (aIc cI b3 8 B3), (aIc cI b4 8 B4), (aIc cI b6 8 B6), (aIc cI b8 64 B8), (aIc cI b10 10 B10), (aIc cI b11 10 B11), (aIc cI s5 8 z8), (aIc cI s6 8 z9), (aIc cI s7 8 z10), (aIc cI s8 8 z11), (aIc cI s9 8 z12), (aIc cI s10 8 z13), (aIc cI s11 8 z14), (aIc cI w0 8 z27), (aIc cI w1 8 z15), (aIc cI w2 8 z16), (aIc cI w3 8 z17), (aIc cI w4 8 z18), (aIc cI w8 8 z19), (aIc cI d0 8 z20), (aIc cI d1 8 z21), (aJc cJ d2 8 z22), (aIc cI b5 8 B5)]) hx hb hr hlk hP hD hS dX7_share_141 ?_
        exact ⟨z8, z9, z10, z11, z12, z13, z14, z15, z16, z17, z18, z19, z20, z21, z22, z23, z24, z25, z26, z27, z28, z29, z30, (by omega), (by omega), (by first | omega | exact ev_lt hnp), rfl⟩
      by_cases c46 : p2 = 6
      · skip
        refine lv_tableIn (tgt := 142) hx hb dX7_share_39 (by rw [c46]; decide) (by rw [c46]; decide) (off := 103) (by rw [c46]; rfl) (by decide) ?_
        refine lv_aload hx hb dX7_share_142 (lv_at hl 0 rfl) ?_
        refine lv_iload_n hx hb dX7_share_144 rfl (lv_at hl 3 rfl) ?_
        refine k_iS (va_runV (As := [.int (nI pj)]) (rest := []) ⟨hx, hb, hml, hown, hts⟩ (m_X6_trueYields l D cI cJ H.size s1 w0 w1 w2 w3 w4 w8 pj z29 z26 z25 z15 z16 (by omega)) (cwV 1 hts gX7_share_X6_trueYields rfl rfl rfl (by decide +kernel) ⟨Nat.le_of_ble_eq_true rfl, Nat.le_of_ble_eq_true rfl⟩) (k_preV hE hP hD [3, 22, 23] (by decide +kernel) rfl 3 rfl rfl) rfl rfl hl.1 rfl (lv_room (Nat.le_of_ble_eq_true rfl)) dX7_share_145 ⟨Nat.le_of_ble_eq_true rfl, Nat.le_of_ble_eq_true rfl⟩) hP hD hS hA [3, 22, 23] rfl (fun _ _ h9 => h9) (fun r47 H locs hw48 hP hD hS => ?_)
        refine vx_ret ?_
        refine W.widen (k := 1) (n := 6) (Nat.le_of_ble_eq_true rfl) (Nat.le_of_ble_eq_true rfl) ?_
        refine k_iret (u := [(oX7 x x0 x1 x2 x3 x4 x5), (oX4 x1 x0 s1 s2 (nI z30) z28 s5 s6 s7 s8 s9 s10 s11 z23 z24), (oX0 x0 b0 b1 b2 b3 b4 b5 b6 b7 b8 b9 b10 b11 (nI np) (nI nl) bi14), (oX6 s1 w0 w1 w2 w3 w4 (nI z29) z25 (nI z26) w8), (oX2 s2 d0 d1 d2), (aIc cI b0 8 B0), (aIc cI b1 8 B1), (aIc cI b2 8 B2), (aIc cI b3 8 B3), (aIc cI b4 8 B4), (aIc cI b6 8 B6), (aIc cI b8 64 B8), (aIc cI b10 10 B10), (aIc cI b11 10 B11), (aIc cI s5 8 z8), (aIc cI s6 8 z9), (aIc cI s7 8 z10), (aIc cI s8 8 z11), (aIc cI s9 8 z12), (aIc cI s10 8 z13), (aIc cI s11 8 z14), (aIc cI w0 8 z27), (aIc cI w1 8 z15), (aIc cI w2 8 z16), (aIc cI w3 8 z17), (aIc cI w4 8 z18), (aIc cI w8 8 z19), (aIc cI d0 8 z20), (aIc cI d1 8 z21), (aJc cJ d2 8 z22), (aIc cI b5 8 B5)]) hx hb hr hlk hP hD hS dX7_share_148 ?_
        exact ⟨z8, z9, z10, z11, z12, z13, z14, z15, z16, z17, z18, z19, z20, z21, z22, z23, z24, z25, z26, z27, z28, z29, z30, (by omega), (by omega), (by first | omega | exact ev_lt hnp), rfl⟩
      by_cases c49 : p2 = 7
      · skip
        refine lv_tableIn (tgt := 149) hx hb dX7_share_39 (by rw [c49]; decide) (by rw [c49]; decide) (off := 110) (by rw [c49]; rfl) (by decide) ?_
        refine lv_aload_n hx hb dX7_share_149 rfl (lv_at hl 1 rfl) ?_
        refine va_get (D := D) (ci := 7) (v := .ref x1) (C := RX7) (T := TX7) (N := 6) hx hb hts hiX7 hown hE.1 hP 0 rfl rfl 1 (by decide) (hts _ (List.mem_cons_of_mem _ wd_17)) (fun _ h9 => h9) rfl dX7_share_150 ?_
        refine va_get (D := D) (ci := 4) (v := .ref s6) (C := RX4) (T := TX4) (N := 14) hx hb hts hiX4 hown hE.1 hP 1 rfl rfl 6 (by decide) (hts _ (List.mem_cons_of_mem _ wd_586)) (fun _ h9 => h9) rfl dX7_share_153 ?_
        refine lv_iload_n hx hb dX7_share_156 rfl (lv_at hl 3 rfl) ?_
        refine va_iald hx hb hE.1 hP 15 0 rfl rfl (vp_in_nI (n := pj) (by omega) (by decide)) dX7_share_157 ?_
        refine lv_topi (fun v50 ev50 => ?_)
        refine vx_ret ?_
        refine W.widen (k := 1) (n := 6) (Nat.le_of_ble_eq_true rfl) (Nat.le_of_ble_eq_true rfl) ?_
        refine k_iret (u := [(oX7 x x0 x1 x2 x3 x4 x5), (oX4 x1 x0 s1 s2 (nI z30) z28 s5 s6 s7 s8 s9 s10 s11 z23 z24), (oX0 x0 b0 b1 b2 b3 b4 b5 b6 b7 b8 b9 b10 b11 (nI np) (nI nl) bi14), (oX6 s1 w0 w1 w2 w3 w4 (nI z29) z25 (nI z26) w8), (oX2 s2 d0 d1 d2), (aIc cI b0 8 B0), (aIc cI b1 8 B1), (aIc cI b2 8 B2), (aIc cI b3 8 B3), (aIc cI b4 8 B4), (aIc cI b6 8 B6), (aIc cI b8 64 B8), (aIc cI b10 10 B10), (aIc cI b11 10 B11), (aIc cI s5 8 z8), (aIc cI s6 8 z9), (aIc cI s7 8 z10), (aIc cI s8 8 z11), (aIc cI s9 8 z12), (aIc cI s10 8 z13), (aIc cI s11 8 z14), (aIc cI w0 8 z27), (aIc cI w1 8 z15), (aIc cI w2 8 z16), (aIc cI w3 8 z17), (aIc cI w4 8 z18), (aIc cI w8 8 z19), (aIc cI d0 8 z20), (aIc cI d1 8 z21), (aJc cJ d2 8 z22), (aIc cI b5 8 B5)]) hx hb hr hlk hP hD hS dX7_share_158 ?_
        exact ⟨z8, z9, z10, z11, z12, z13, z14, z15, z16, z17, z18, z19, z20, z21, z22, z23, z24, z25, z26, z27, z28, z29, z30, (by omega), (by omega), (by first | omega | exact ev_lt hnp), rfl⟩
      by_cases c51 : p2 = 8
      · skip
        refine lv_tableIn (tgt := 159) hx hb dX7_share_39 (by rw [c51]; decide) (by rw [c51]; decide) (off := 120) (by rw [c51]; rfl) (by decide) ?_
        refine lv_aload_n hx hb dX7_share_159 rfl (lv_at hl 1 rfl) ?_
        refine va_get (D := D) (ci := 7) (v := .ref x1) (C := RX7) (T := TX7) (N := 6) hx hb hts hiX7 hown hE.1 hP 0 rfl rfl 1 (by decide) (hts _ (List.mem_cons_of_mem _ wd_17)) (fun _ h9 => h9) rfl dX7_share_160 ?_
        refine lv_iload_n hx hb dX7_share_163 rfl (lv_at hl 3 rfl) ?_
        refine k_iS (va_runV (As := [.int (nI pj)]) (rest := []) ⟨hx, hb, hml, hown, hts⟩ (m_X4_burdenOn l D cI cJ H.size x1 x0 s1 s2 s5 s6 s7 s8 s9 s10 s11 w0 w1 w2 w3 w4 w8 pj z29 z26 z30 z28 z23 z24 z25 z17 z14 (by omega)) (cwV 1 hts gX7_share_X4_burdenOn rfl rfl rfl (by decide +kernel) ⟨Nat.le_of_ble_eq_true rfl, Nat.le_of_ble_eq_true rfl⟩) (k_preV hE hP hD [1, 3, 24, 20] (by decide +kernel) rfl 1 rfl rfl) rfl rfl hl.1 rfl (lv_room (Nat.le_of_ble_eq_true rfl)) dX7_share_164 ⟨Nat.le_of_ble_eq_true rfl, Nat.le_of_ble_eq_true rfl⟩) hP hD hS hA [1, 3, 24, 20] rfl (fun _ _ h9 => h9) (fun r52 H locs hw53 hP hD hS => ?_)
        refine vx_ret ?_
        refine W.widen (k := 1) (n := 6) (Nat.le_of_ble_eq_true rfl) (Nat.le_of_ble_eq_true rfl) ?_
        refine k_iret (u := [(oX7 x x0 x1 x2 x3 x4 x5), (oX4 x1 x0 s1 s2 (nI z30) z28 s5 s6 s7 s8 s9 s10 s11 z23 z24), (oX0 x0 b0 b1 b2 b3 b4 b5 b6 b7 b8 b9 b10 b11 (nI np) (nI nl) bi14), (oX6 s1 w0 w1 w2 w3 w4 (nI z29) z25 (nI z26) w8), (oX2 s2 d0 d1 d2), (aIc cI b0 8 B0), (aIc cI b1 8 B1), (aIc cI b2 8 B2), (aIc cI b3 8 B3), (aIc cI b4 8 B4), (aIc cI b6 8 B6), (aIc cI b8 64 B8), (aIc cI b10 10 B10), (aIc cI b11 10 B11), (aIc cI s5 8 z8), (aIc cI s6 8 z9), (aIc cI s7 8 z10), (aIc cI s8 8 z11), (aIc cI s9 8 z12), (aIc cI s10 8 z13), (aIc cI s11 8 z14), (aIc cI w0 8 z27), (aIc cI w1 8 z15), (aIc cI w2 8 z16), (aIc cI w3 8 z17), (aIc cI w4 8 z18), (aIc cI w8 8 z19), (aIc cI d0 8 z20), (aIc cI d1 8 z21), (aJc cJ d2 8 z22), (aIc cI b5 8 B5)]) hx hb hr hlk hP hD hS dX7_share_167 ?_
        exact ⟨z8, z9, z10, z11, z12, z13, z14, z15, z16, z17, z18, z19, z20, z21, z22, z23, z24, z25, z26, z27, z28, z29, z30, (by omega), (by omega), (by first | omega | exact ev_lt hnp), rfl⟩
      refine lv_tableOut (tgt := 168) hx hb dX7_share_39 (sw_out9 c34 c36 c38 c40 c42 c44 c46 c49 c51) (by decide) ?_
      have hat : ∀ w ∈ vx_at0 RX7 130 NSE NSN, w.before [.ref x, .int p0, .int p1, .int p2].toArray s = true := vx_hat (B := xB) (fun w h => hts w (List.mem_cons_of_mem _ (tbx w h))) (by decide +kernel) hXw.use
      have hPu : va_P D vwCl [(oX7 x x0 x1 x2 x3 x4 x5), (oX4 x1 x0 s1 s2 (nI z30) z28 s5 s6 s7 s8 s9 s10 s11 z23 z24), (oX0 x0 b0 b1 b2 b3 b4 b5 b6 b7 b8 b9 b10 b11 (nI np) (nI nl) bi14), (oX6 s1 w0 w1 w2 w3 w4 (nI z29) z25 (nI z26) w8), (oX2 s2 d0 d1 d2), (aIc cI b0 8 B0), (aIc cI b1 8 B1), (aIc cI b2 8 B2), (aIc cI b3 8 B3), (aIc cI b4 8 B4), (aIc cI b6 8 B6), (aIc cI b8 64 B8), (aIc cI b10 10 B10), (aIc cI b11 10 B11), (aIc cI s5 8 z8), (aIc cI s6 8 z9), (aIc cI s7 8 z10), (aIc cI s8 8 z11), (aIc cI s9 8 z12), (aIc cI s10 8 z13), (aIc cI s11 8 z14), (aIc cI w0 8 z27), (aIc cI w1 8 z15), (aIc cI w2 8 z16), (aIc cI w3 8 z17), (aIc cI w4 8 z18), (aIc cI w8 8 z19), (aIc cI d0 8 z20), (aIc cI d1 8 z21), (aJc cJ d2 8 z22), (aIc cI b5 8 B5)] H := hP
      have hDu : va_D A [(oX7 x x0 x1 x2 x3 x4 x5), (oX4 x1 x0 s1 s2 (nI z30) z28 s5 s6 s7 s8 s9 s10 s11 z23 z24), (oX0 x0 b0 b1 b2 b3 b4 b5 b6 b7 b8 b9 b10 b11 (nI np) (nI nl) bi14), (oX6 s1 w0 w1 w2 w3 w4 (nI z29) z25 (nI z26) w8), (oX2 s2 d0 d1 d2), (aIc cI b0 8 B0), (aIc cI b1 8 B1), (aIc cI b2 8 B2), (aIc cI b3 8 B3), (aIc cI b4 8 B4), (aIc cI b6 8 B6), (aIc cI b8 64 B8), (aIc cI b10 10 B10), (aIc cI b11 10 B11), (aIc cI s5 8 z8), (aIc cI s6 8 z9), (aIc cI s7 8 z10), (aIc cI s8 8 z11), (aIc cI s9 8 z12), (aIc cI s10 8 z13), (aIc cI s11 8 z14), (aIc cI w0 8 z27), (aIc cI w1 8 z15), (aIc cI w2 8 z16), (aIc cI w3 8 z17), (aIc cI w4 8 z18), (aIc cI w8 8 z19), (aIc cI d0 8 z20), (aIc cI d1 8 z21), (aJc cJ d2 8 z22), (aIc cI b5 8 B5)] := hD
      exact vx_throw0 (cls := NSE) (names := NSN) (ik := 128) (ic := 130) (mc := 1) (ms := 6) hx hb hl9 hown (by decide +kernel) (by decide +kernel) (hts _ (List.mem_cons_of_mem _ wd_495)) (hts _ (List.mem_cons_of_mem _ wd_496)) hat (by decide +kernel) hXw.2.1 hXw.2.2 hS (hl.1.trans hml.symm) dX7_share_168 dX7_share_171 dX7_share_172 dX7_share_175 (fun x hx9 => (htab x hx9).elim) (Nat.le_of_ble_eq_true rfl) (Nat.le_of_ble_eq_true rfl) (Nat.le_of_ble_eq_true rfl) (Nat.le_of_ble_eq_true rfl) hlk (fun t _ hz hk => ⟨[(oX7 x x0 x1 x2 x3 x4 x5), (oX4 x1 x0 s1 s2 (nI z30) z28 s5 s6 s7 s8 s9 s10 s11 z23 z24), (oX0 x0 b0 b1 b2 b3 b4 b5 b6 b7 b8 b9 b10 b11 (nI np) (nI nl) bi14), (oX6 s1 w0 w1 w2 w3 w4 (nI z29) z25 (nI z26) w8), (oX2 s2 d0 d1 d2), (aIc cI b0 8 B0), (aIc cI b1 8 B1), (aIc cI b2 8 B2), (aIc cI b3 8 B3), (aIc cI b4 8 B4), (aIc cI b6 8 B6), (aIc cI b8 64 B8), (aIc cI b10 10 B10), (aIc cI b11 10 B11), (aIc cI s5 8 z8), (aIc cI s6 8 z9), (aIc cI s7 8 z10), (aIc cI s8 8 z11), (aIc cI s9 8 z12), (aIc cI s10 8 z13), (aIc cI s11 8 z14), (aIc cI w0 8 z27), (aIc cI w1 8 z15), (aIc cI w2 8 z16), (aIc cI w3 8 z17), (aIc cI w4 8 z18), (aIc cI w8 8 z19), (aIc cI d0 8 z20), (aIc cI d1 8 z21), (aJc cJ d2 8 z22), (aIc cI b5 8 B5)], ⟨z8, z9, z10, z11, z12, z13, z14, z15, z16, z17, z18, z19, z20, z21, z22, z23, z24, z25, z26, z27, z28, z29, z30, (by omega), (by omega), (by first | omega | exact ev_lt hnp), rfl⟩, ⟨rfl, hPu.kept (fun k q hq => hk q.1 (hPu k q hq).lt), hDu⟩, ⟨Nat.le_trans hS.1 hz, fun q h1 h2 => (hk q (Nat.lt_of_lt_of_le h1 hS.1)).trans (hS.2.1 q h1 h2)⟩⟩) hS.2.2 (Nat.le_of_ble_eq_true rfl) (Nat.le_of_ble_eq_true rfl)
    · skip
      have hc6 : ¬ (0 ≤ p1 ∧ p1 ≤ (nI np) - 1) := bz_0 hw5 c6
      have hat : ∀ w ∈ vx_at0 RX7 130 NSE NSN, w.before [.ref x, .int p0, .int p1, .int p2].toArray s = true := vx_hat (B := xB) (fun w h => hts w (List.mem_cons_of_mem _ (tbx w h))) (by decide +kernel) hXw.use
      have hPu : va_P D vwCl [(oX7 x x0 x1 x2 x3 x4 x5), (oX4 x1 x0 s1 s2 (nI pn) si4 s5 s6 s7 s8 s9 s10 s11 si12 si13), (oX0 x0 b0 b1 b2 b3 b4 b5 b6 b7 b8 b9 b10 b11 (nI np) (nI nl) bi14), (oX6 s1 w0 w1 w2 w3 w4 (nI wn) wi6 (nI lv) w8), (oX2 s2 d0 d1 d2), (aIc cI b0 8 B0), (aIc cI b1 8 B1), (aIc cI b2 8 B2), (aIc cI b3 8 B3), (aIc cI b4 8 B4), (aIc cI b6 8 B6), (aIc cI b8 64 B8), (aIc cI b10 10 B10), (aIc cI b11 10 B11), (aIc cI s5 8 S5), (aIc cI s6 8 S6), (aIc cI s7 8 S7), (aIc cI s8 8 S8), (aIc cI s9 8 S9), (aIc cI s10 8 S10), (aIc cI s11 8 S11), (aIc cI w0 8 W0), (aIc cI w1 8 W1), (aIc cI w2 8 W2), (aIc cI w3 8 W3), (aIc cI w4 8 W4), (aIc cI w8 8 W8), (aIc cI d0 8 D0), (aIc cI d1 8 D1), (aJc cJ d2 8 D2), (aIc cI b5 8 B5)] H := hP
      have hDu : va_D A [(oX7 x x0 x1 x2 x3 x4 x5), (oX4 x1 x0 s1 s2 (nI pn) si4 s5 s6 s7 s8 s9 s10 s11 si12 si13), (oX0 x0 b0 b1 b2 b3 b4 b5 b6 b7 b8 b9 b10 b11 (nI np) (nI nl) bi14), (oX6 s1 w0 w1 w2 w3 w4 (nI wn) wi6 (nI lv) w8), (oX2 s2 d0 d1 d2), (aIc cI b0 8 B0), (aIc cI b1 8 B1), (aIc cI b2 8 B2), (aIc cI b3 8 B3), (aIc cI b4 8 B4), (aIc cI b6 8 B6), (aIc cI b8 64 B8), (aIc cI b10 10 B10), (aIc cI b11 10 B11), (aIc cI s5 8 S5), (aIc cI s6 8 S6), (aIc cI s7 8 S7), (aIc cI s8 8 S8), (aIc cI s9 8 S9), (aIc cI s10 8 S10), (aIc cI s11 8 S11), (aIc cI w0 8 W0), (aIc cI w1 8 W1), (aIc cI w2 8 W2), (aIc cI w3 8 W3), (aIc cI w4 8 W4), (aIc cI w8 8 W8), (aIc cI d0 8 D0), (aIc cI d1 8 D1), (aJc cJ d2 8 D2), (aIc cI b5 8 B5)] := hD
      exact vx_throw0 (cls := NSE) (names := NSN) (ik := 128) (ic := 130) (mc := 1) (ms := 6) hx hb hl9 hown (by decide +kernel) (by decide +kernel) (hts _ (List.mem_cons_of_mem _ wd_495)) (hts _ (List.mem_cons_of_mem _ wd_496)) hat (by decide +kernel) hXw.2.1 hXw.2.2 hS (hl.1.trans hml.symm) dX7_share_16 dX7_share_19 dX7_share_20 dX7_share_23 (fun x hx9 => (htab x hx9).elim) (Nat.le_of_ble_eq_true rfl) (Nat.le_of_ble_eq_true rfl) (Nat.le_of_ble_eq_true rfl) (Nat.le_of_ble_eq_true rfl) hlk (fun t _ hz hk => ⟨[(oX7 x x0 x1 x2 x3 x4 x5), (oX4 x1 x0 s1 s2 (nI pn) si4 s5 s6 s7 s8 s9 s10 s11 si12 si13), (oX0 x0 b0 b1 b2 b3 b4 b5 b6 b7 b8 b9 b10 b11 (nI np) (nI nl) bi14), (oX6 s1 w0 w1 w2 w3 w4 (nI wn) wi6 (nI lv) w8), (oX2 s2 d0 d1 d2), (aIc cI b0 8 B0), (aIc cI b1 8 B1), (aIc cI b2 8 B2), (aIc cI b3 8 B3), (aIc cI b4 8 B4), (aIc cI b6 8 B6), (aIc cI b8 64 B8), (aIc cI b10 10 B10), (aIc cI b11 10 B11), (aIc cI s5 8 S5), (aIc cI s6 8 S6), (aIc cI s7 8 S7), (aIc cI s8 8 S8), (aIc cI s9 8 S9), (aIc cI s10 8 S10), (aIc cI s11 8 S11), (aIc cI w0 8 W0), (aIc cI w1 8 W1), (aIc cI w2 8 W2), (aIc cI w3 8 W3), (aIc cI w4 8 W4), (aIc cI w8 8 W8), (aIc cI d0 8 D0), (aIc cI d1 8 D1), (aJc cJ d2 8 D2), (aIc cI b5 8 B5)], ⟨S5, S6, S7, S8, S9, S10, S11, W1, W2, W3, W4, W8, D0, D1, D2, si12, si13, wi6, lv, W0, si4, wn, pn, (by omega), (by omega), (by first | omega | exact ev_lt hnp), rfl⟩, ⟨rfl, hPu.kept (fun k q hq => hk q.1 (hPu k q hq).lt), hDu⟩, ⟨Nat.le_trans hS.1 hz, fun q h1 h2 => (hk q (Nat.lt_of_lt_of_le h1 hS.1)).trans (hS.2.1 q h1 h2)⟩⟩) hS.2.2 (Nat.le_of_ble_eq_true rfl) (Nat.le_of_ble_eq_true rfl)

