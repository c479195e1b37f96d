def fct (j : Nat) : Int64 := match j with | 0 => 1 | 1 => 1 | 2 => 2 | 3 => 6 | 4 => 24 | 5 => 120 | 6 => 720 | 7 => 5040 | _ => 0
/-- the static row of factorials, which nobody writes -/
def fz (tf : Nat) (A : Nat → Prop) (U : State) (H : Heap) : Prop := va_Z RX7 "FACTORIALS" "[J" (.ref tf) A U H ∧ va_T .long tf 8 (fun j => .long (fct j)) A U H
theorem fz.moved {tf : Nat} {A : Nat → Prop} {u U : State} {H : Heap} (hv : u.vm.Alike U.vm) (h : fz tf A u H) : fz tf A U H := ⟨va_Z.moved hv h.1, va_T.moved hv h.2⟩
theorem fz.kept {tf : Nat} {A : Nat → Prop} {U : State} {H H1 : Heap} (h : fz tf A U H) (hq : ∀ a : Nat, a < H.size → ¬ A a → H1[a]? = H[a]?) : fz tf A U H1 := ⟨h.1.kept hq, h.2.kept hq⟩
theorem fz.narrow {tf : Nat} {A B : Nat → Prop} {U : State} {H : Heap} (h : fz tf A U H) (hAB : ∀ q, B q → A q) : fz tf B U H := ⟨h.1.narrow hAB, h.2.narrow hAB⟩
def cPz (tf : Nat) (D : va_G) (cI cJ : ClassId) (av : List Value) (sz : Nat) (WS : va_W) : Array Value → State → Prop := va_Pc av (fun U => cB D cI cJ sz WS U ∧ fz tf (va_A WS sz) U U.heap)
theorem cPz_blind {tf : Nat} {D : va_G} {cI cJ : ClassId} {av : List Value} {sz : Nat} {WS : va_W} : FrameBlind (cPz tf D cI cJ av sz WS) := fun a U g mk q => ⟨q.1, (cPc_blind (D := D) (cI := cI) (cJ := cJ) (av := av) (sz := sz) (WS := WS) a U g mk ⟨q.1, q.2.1⟩).2, fz.moved (u := U) (Vm.Alike.refl U.vm) q.2.2⟩
theorem k_preVz {tf : Nat} {s : State} {H : Heap} {D : va_G} {cI cJ : ClassId} {A : Nat → Prop} {w wc : va_W} {As : List Value} {locs : List Loc} {b ci : Nat} {fs : List Value} {C : String} {T : u_T} {N : Nat} (hE : eK D cI cJ s) (hP : va_P D vwCl w H) (hD : va_D A w) (hS : va_S A s.heap H locs) (hA : ∀ q, s.heap.size ≤ q → A q) (hZ : fz tf A s s.heap) (isC : List Nat) (hn : va_nd isC = true) (hC : isC.map (fun i => w[i]?) = wc.map some) (q0 : Nat) (he : w[q0]? = some (b, .inr (ci, fs))) (hc : vwCl[ci]? = some (C, T, N)) : PreV s H C b (cPz tf D cI cJ (.ref b :: As) H.size wc) As := by
  refine ⟨cPz_blind, va_recv hE.1 hP (ci := ci) (q0 := q0) hc he, fun U hU hW => ?_⟩
  have h1 := (k_pre (As := .ref b :: As) hE hP hD isC hn hC).2 U hU hW
  have h2 : fz tf A s H := hZ.kept (fun a h3 h4 => hS.2.1 a h3 h4)
  refine ⟨h1.1, h1.2, ?_⟩
  rw [hU]
  exact fz.moved hW.alike (h2.narrow (va_free (wc := wc) hD hS hA isC hC))
theorem k_ofWz {tf : Nat} {l : Launch} {y : MethodName} {ws ws' : List Cond} {rm : Room} {cc : ByteArray} {maxL : Nat} {ret : Option FieldType} {D : va_G} {cI cJ : ClassId} {av : List Value} {sz : Nat} {WS : va_W} {Qc : (Nat → Prop) → Array Value → State → Outcome → State → Prop} {mc ms : Nat}
    (hy : plainName y.cls = true) (hw : ws = Cond.code y cc maxL ret :: ws') (hav : (lg_sl av).length ≤ maxL)
    (body : ∀ (p : Program) (e : Env) (s : State) (m : MethodId) (below : List Frame) (meth : Method) (c : Code) (A : Nat → Prop) (ls : Array Slot), p.tables.exec = Jvm.exec → c.code = cc → meth.sig.returnType = ret → c.maxLocals = maxL → (∀ w ∈ ws, w.before av.toArray s = true) → s.vm.findClass y.cls = some m.cls → meth.locks = false → meth.name = y.name → s.heap.size = sz → eK D cI cJ s → va_P D vwCl WS s.heap → va_D A WS → va_S A s.heap s.heap [] → (∀ q, s.heap.size ≤ q → A q) → lv_has ls maxL (lv_args 0 av) → fz tf A s s.heap →
      W p l e rm s m av.toArray below meth c s.heap [] 0 0 (MQ below (Qc A) av.toArray s mc ms A) (F0 m 0 ls [])) : Met l y ws rm (cPz tf D cI cJ av sz WS) (Qc (va_A WS sz)) mc ms (va_A WS sz) := by
  refine Met.ofW (cc := cc) (maxL := maxL) (ret := ret) hy hw ?_
  intro p e s m args below meth c s₁ B hml hv
  obtain ⟨rfl, ⟨hsz, hP, hE, hD0⟩, hZ⟩ := hv
  have hts := atoms_spec (ws := ws) B.pre
  have hD := hD0.self (sz := s.heap.size)
  subst hsz
  have hl := lv_entry av (n := maxL) hav
  rw [lg_entry_eq]
  exact body p e s m below meth c _ _ B.exec B.bytes B.returns hml hts (findClass_of_methodNamed B.named) B.notSynchronized (name_of_methodNamed B.named B.method).1 rfl hE hP hD va_S.rf (fun q h => Or.inr h) hl hZ
def pcx (s p : Nat) : Nat := (if 0 = p then 0 else s % 2) + (if 1 = p then 0 else s / 2 % 2) + (if 2 = p then 0 else s / 4 % 2) + (if 3 = p then 0 else s / 8 % 2) + (if 4 = p then 0 else s / 16 % 2) + (if 5 = p then 0 else s / 32 % 2) + (if 6 = p then 0 else s / 64 % 2) + (if 7 = p then 0 else s / 128 % 2)
theorem bcn_t1 : ∀ p : Fin 8, ∀ s : Fin 256, bc (nI s.val &&& (((1 : Int32) <<< (nI p.val &&& 31)) ^^^ (-1))) = nI (pcx s.val p.val) := by decide +kernel
theorem bcn_t2 : ∀ n : Fin 9, ∀ p : Fin 8, ∀ s : Fin 256, p.val < n.val → s.val < 2 ^ n.val → pcx s.val p.val + 1 ≤ n.val := by decide +kernel
theorem bcn {n s p : Nat} {v w x : Int32} (hn : n ≤ 8) (hp : p < n) (hs : s < 2 ^ n) (ev : v = 1 <<< (nI p &&& 31)) (ew : w = v ^^^ (-1)) (ex : x = nI s &&& w) : ∃ k : Nat, k + 1 ≤ n ∧ bc x = nI k := by
  have h256 : s < 256 := Nat.lt_of_lt_of_le hs (Nat.pow_le_pow_right (by decide) hn)
  refine ⟨pcx s p, bcn_t2 ⟨n, by omega⟩ ⟨p, by omega⟩ ⟨s, h256⟩ hp hs, ?_⟩
  rw [ex, ew, ev]
  exact bcn_t1 ⟨p, by omega⟩ ⟨s, h256⟩
theorem dX7_shapley_0 : decode cX7_shapley 0 = .ok (.aload_n 0, 1) := by decide +kernel
theorem dX7_shapley_1 : decode cX7_shapley 1 = .ok (.iload_n 1, 1) := by decide +kernel
theorem dX7_shapley_2 : decode cX7_shapley 2 = .ok (.invokevirtual 137, 3) := by decide +kernel
theorem dX7_shapley_5 : decode cX7_shapley 5 = .ok (.ifCond .eq 11, 3) := by decide +kernel
theorem dX7_shapley_8 : decode cX7_shapley 8 = .ok (.aload_n 0, 1) := by decide +kernel
theorem dX7_shapley_9 : decode cX7_shapley 9 = .ok (.iload_n 2, 1) := by decide +kernel
theorem dX7_shapley_10 : decode cX7_shapley 10 = .ok (.invokevirtual 74, 3) := by decide +kernel
theorem dX7_shapley_13 : decode cX7_shapley 13 = .ok (.ifCond .ne 7, 3) := by decide +kernel
theorem dX7_shapley_16 : decode cX7_shapley 16 = .ok (.ldc2_w 203, 3) := by decide +kernel
theorem dX7_shapley_19 : decode cX7_shapley 19 = .ok (.lreturn, 1) := by decide +kernel
theorem dX7_shapley_20 : decode cX7_shapley 20 = .ok (.aload_n 0, 1) := by decide +kernel
theorem dX7_shapley_21 : decode cX7_shapley 21 = .ok (.getfield 20, 3) := by decide +kernel
theorem dX7_shapley_24 : decode cX7_shapley 24 = .ok (.invokevirtual 280, 3) := by decide +kernel
theorem dX7_shapley_27 : decode cX7_shapley 27 = .ok (.istore_n 3, 1) := by decide +kernel
theorem dX7_shapley_28 : decode cX7_shapley 28 = .ok (.lconst 0, 1) := by decide +kernel
theorem dX7_shapley_29 : decode cX7_shapley 29 = .ok (.lstore 4, 2) := by decide +kernel
theorem dX7_shapley_31 : decode cX7_shapley 31 = .ok (.iconst 0, 1) := by decide +kernel
theorem dX7_shapley_32 : decode cX7_shapley 32 = .ok (.istore 6, 2) := by decide +kernel
theorem dX7_shapley_34 : decode cX7_shapley 34 = .ok (.iload 6, 2) := by decide +kernel
theorem dX7_shapley_36 : decode cX7_shapley 36 = .ok (.iload_n 3, 1) := by decide +kernel
theorem dX7_shapley_37 : decode cX7_shapley 37 = .ok (.if_icmp .gt 85, 3) := by decide +kernel
theorem dX7_shapley_40 : decode cX7_shapley 40 = .ok (.iload 6, 2) := by decide +kernel
theorem dX7_shapley_42 : decode cX7_shapley 42 = .ok (.iconst 1, 1) := by decide +kernel
theorem dX7_shapley_43 : decode cX7_shapley 43 = .ok (.iload_n 2, 1) := by decide +kernel
theorem dX7_shapley_44 : decode cX7_shapley 44 = .ok (.ishl, 1) := by decide +kernel
theorem dX7_shapley_45 : decode cX7_shapley 45 = .ok (.iconst (-1), 1) := by decide +kernel
theorem dX7_shapley_46 : decode cX7_shapley 46 = .ok (.ixor, 1) := by decide +kernel
theorem dX7_shapley_47 : decode cX7_shapley 47 = .ok (.iand, 1) := by decide +kernel
theorem dX7_shapley_48 : decode cX7_shapley 48 = .ok (.invokestatic 294, 3) := by decide +kernel
theorem dX7_shapley_51 : decode cX7_shapley 51 = .ok (.istore 7, 2) := by decide +kernel
theorem dX7_shapley_53 : decode cX7_shapley 53 = .ok (.getstatic 299, 3) := by decide +kernel
theorem dX7_shapley_56 : decode cX7_shapley 56 = .ok (.iload 7, 2) := by decide +kernel
theorem dX7_shapley_58 : decode cX7_shapley 58 = .ok (.laload, 1) := by decide +kernel
theorem dX7_shapley_59 : decode cX7_shapley 59 = .ok (.getstatic 299, 3) := by decide +kernel
theorem dX7_shapley_62 : decode cX7_shapley 62 = .ok (.aload_n 0, 1) := by decide +kernel
theorem dX7_shapley_63 : decode cX7_shapley 63 = .ok (.getfield 20, 3) := by decide +kernel
theorem dX7_shapley_66 : decode cX7_shapley 66 = .ok (.getfield 53, 3) := by decide +kernel
theorem dX7_shapley_69 : decode cX7_shapley 69 = .ok (.iconst 1, 1) := by decide +kernel
theorem dX7_shapley_70 : decode cX7_shapley 70 = .ok (.isub, 1) := by decide +kernel
theorem dX7_shapley_71 : decode cX7_shapley 71 = .ok (.iload 7, 2) := by decide +kernel
theorem dX7_shapley_73 : decode cX7_shapley 73 = .ok (.isub, 1) := by decide +kernel
theorem dX7_shapley_74 : decode cX7_shapley 74 = .ok (.laload, 1) := by decide +kernel
theorem dX7_shapley_75 : decode cX7_shapley 75 = .ok (.lmul, 1) := by decide +kernel
theorem dX7_shapley_76 : decode cX7_shapley 76 = .ok (.lstore 8, 2) := by decide +kernel
theorem dX7_shapley_78 : decode cX7_shapley 78 = .ok (.aload_n 0, 1) := by decide +kernel
theorem dX7_shapley_79 : decode cX7_shapley 79 = .ok (.iload_n 1, 1) := by decide +kernel
theorem dX7_shapley_80 : decode cX7_shapley 80 = .ok (.iload 6, 2) := by decide +kernel
theorem dX7_shapley_82 : decode cX7_shapley 82 = .ok (.invokevirtual 283, 3) := by decide +kernel
theorem dX7_shapley_85 : decode cX7_shapley 85 = .ok (.i2l, 1) := by decide +kernel
theorem dX7_shapley_86 : decode cX7_shapley 86 = .ok (.lstore 10, 2) := by decide +kernel
theorem dX7_shapley_88 : decode cX7_shapley 88 = .ok (.lload 4, 2) := by decide +kernel
theorem dX7_shapley_90 : decode cX7_shapley 90 = .ok (.iload 6, 2) := by decide +kernel
theorem dX7_shapley_92 : decode cX7_shapley 92 = .ok (.iload_n 2, 1) := by decide +kernel
theorem dX7_shapley_93 : decode cX7_shapley 93 = .ok (.invokestatic 267, 3) := by decide +kernel
theorem dX7_shapley_96 : decode cX7_shapley 96 = .ok (.ifCond .eq 11, 3) := by decide +kernel
theorem dX7_shapley_99 : decode cX7_shapley 99 = .ok (.lload 8, 2) := by decide +kernel
theorem dX7_shapley_101 : decode cX7_shapley 101 = .ok (.lload 10, 2) := by decide +kernel
theorem dX7_shapley_103 : decode cX7_shapley 103 = .ok (.lmul, 1) := by decide +kernel
theorem dX7_shapley_104 : decode cX7_shapley 104 = .ok (.goto 9, 3) := by decide +kernel
theorem dX7_shapley_107 : decode cX7_shapley 107 = .ok (.lload 8, 2) := by decide +kernel
theorem dX7_shapley_109 : decode cX7_shapley 109 = .ok (.lneg, 1) := by decide +kernel
theorem dX7_shapley_110 : decode cX7_shapley 110 = .ok (.lload 10, 2) := by decide +kernel
theorem dX7_shapley_112 : decode cX7_shapley 112 = .ok (.lmul, 1) := by decide +kernel
theorem dX7_shapley_113 : decode cX7_shapley 113 = .ok (.ladd, 1) := by decide +kernel
theorem dX7_shapley_114 : decode cX7_shapley 114 = .ok (.lstore 4, 2) := by decide +kernel
theorem dX7_shapley_116 : decode cX7_shapley 116 = .ok (.iinc 6 1, 3) := by decide +kernel
theorem dX7_shapley_119 : decode cX7_shapley 119 = .ok (.goto (-85), 3) := by decide +kernel
theorem dX7_shapley_122 : decode cX7_shapley 122 = .ok (.lload 4, 2) := by decide +kernel
theorem dX7_shapley_124 : decode cX7_shapley 124 = .ok (.lreturn, 1) := by decide +kernel
theorem gX7_shapley_J6_bitCount_0f7a4 : GoodIn wtX7_shapley (va_wsS RX7 294 yJ6_bitCount_0f7a4 wtJ6_bitCount_0f7a4) := tb_good (tb_s0 wd_858 wd_540 wd_541 wd_542)
theorem gX7_shapley_X0_everyone : GoodIn wtX7_shapley (wsV RX7 280 RX0 yX0_everyone wtX0_everyone) := tb_good (tb_v0 wd_809 wd_293 wd_294 wd_39 wd_295)
theorem gX7_shapley_X7_has : GoodIn wtX7_shapley (va_wsS RX7 267 yX7_has wtX7_has) := tb_good (tb_s0 wd_814 wd_311 wd_2 wd_312)
theorem gX7_shapley_X7_isLoss : GoodIn wtX7_shapley (wsV RX7 137 RX7 yX7_isLoss wtX7_isLoss) := tb_good (tb_v0 wd_519 wd_520 wd_521 wd_2 wd_522)
theorem gX7_shapley_X7_isPolicy : GoodIn wtX7_shapley (wsV RX7 74 RX7 yX7_isPolicy wtX7_isPolicy) := tb_good (tb_v0 wd_186 wd_187 wd_188 wd_2 wd_189)
theorem gX7_shapley_X7_totalOfSet : GoodIn wtX7_shapley (wsV RX7 283 RX7 yX7_totalOfSet wtX7_totalOfSet) := tb_good (tb_v0 wd_823 wd_824 wd_825 wd_2 wd_826)
set_option maxHeartbeats 4000000 in
set_option maxRecDepth 100000 in
theorem m_X7_shapley (l : Launch) (D : va_G) (cI cJ : ClassId) (sz tf : Nat) (x x0 x1 x2 x3 x4 x5 s1 s2 s5 s6 s7 s8 s9 s10 s11 b0 b1 b2 b3 b4 b5 b6 b7 b8 b9 b10 b11 w0 w1 w2 w3 w4 w8 d0 d1 d2 wn lv np nl pn : Nat) (si4 si12 si13 bi14 wi6 p0 p1 : Int32) (B0 B1 B2 B3 B4 B6 B8 B10 B11 S5 S6 S7 S8 S9 S10 S11 W0 W1 W2 W3 W4 W8 D0 D1 : Nat → Int32) (D2 : Nat → Int64) (B5 : Nat → Int32) (hwn : wn < 256) (hlv : lv ≤ 8) (hli : ∀ k, k < 10 → ∃ j : Nat, j < 8 ∧ B10 k = nI j) (hnp : np ≤ 8) (hnl : nl ≤ 10) (hpn : pn < 256) : Met l yX7_shapley wtX7_shapley { frames := 6, cells := 0, slots := 0, locals := 147 } (cPz tf D cI cJ [.ref x, .int p0, .int p1] sz [(oX7 x x0 x1 x2 x3 x4 x5), (oX4 x1 x0 s1 s2 (nI pn) si4 s5 s6 s7 s8 s9 s10 s11 si12 si13), (oX0 x0 b0 b1 b2 b3 b4 b5 b6 b7 b8 b9 b10 b11 (nI np) (nI nl) bi14), (oX6 s1 w0 w1 w2 w3 w4 (nI wn) wi6 (nI lv) w8), (oX2 s2 d0 d1 d2), (aIc cI b0 8 B0), (aIc cI b1 8 B1), (aIc cI b2 8 B2), (aIc cI b3 8 B3), (aIc cI b4 8 B4), (aIc cI b6 8 B6), (aIc cI b8 64 B8), (aIc cI b10 10 B10), (aIc cI b11 10 B11), (aIc cI s5 8 S5), (aIc cI s6 8 S6), (aIc cI s7 8 S7), (aIc cI s8 8 S8), (aIc cI s9 8 S9), (aIc cI s10 8 S10), (aIc cI s11 8 S11), (aIc cI w0 8 W0), (aIc cI w1 8 W1), (aIc cI w2 8 W2), (aIc cI w3 8 W3), (aIc cI w4 8 W4), (aIc cI w8 8 W8), (aIc cI d0 8 D0), (aIc cI d1 8 D1), (aJc cJ d2 8 D2), (aIc cI b5 8 B5)]) (cQl D (fun r u => ∃ (S5p S6p S7p S8p S9p S10p S11p W1p W2p W3p W4p W8p D0p D1p : Nat → Int32) (D2p : Nat → Int64) (si12p si13p wi6p : Int32) (lvp : Nat) (W0p : Nat → Int32) (si4p : Int32) (wnp pnp : Nat), (lvp ≤ 8) ∧ (wnp < 256) ∧ (pnp < 256) ∧ u = [(oX7 x x0 x1 x2 x3 x4 x5), (oX4 x1 x0 s1 s2 (nI pnp) si4p s5 s6 s7 s8 s9 s10 s11 si12p si13p), (oX0 x0 b0 b1 b2 b3 b4 b5 b6 b7 b8 b9 b10 b11 (nI np) (nI nl) bi14), (oX6 s1 w0 w1 w2 w3 w4 (nI wnp) wi6p (nI lvp) w8), (oX2 s2 d0 d1 d2), (aIc cI b0 8 B0), (aIc cI b1 8 B1), (aIc cI b2 8 B2), (aIc cI b3 8 B3), (aIc cI b4 8 B4), (aIc cI b6 8 B6), (aIc cI b8 64 B8), (aIc cI b10 10 B10), (aIc cI b11 10 B11), (aIc cI s5 8 S5p), (aIc cI s6 8 S6p), (aIc cI s7 8 S7p), (aIc cI s8 8 S8p), (aIc cI s9 8 S9p), (aIc cI s10 8 S10p), (aIc cI s11 8 S11p), (aIc cI w0 8 W0p), (aIc cI w1 8 W1p), (aIc cI w2 8 W2p), (aIc cI w3 8 W3p), (aIc cI w4 8 W4p), (aIc cI w8 8 W8p), (aIc cI d0 8 D0p), (aIc cI d1 8 D1p), (aJc cJ d2 8 D2p), (aIc cI b5 8 B5)]) (va_A [(oX7 x x0 x1 x2 x3 x4 x5), (oX4 x1 x0 s1 s2 (nI pn) si4 s5 s6 s7 s8 s9 s10 s11 si12 si13), (oX0 x0 b0 b1 b2 b3 b4 b5 b6 b7 b8 b9 b10 b11 (nI np) (nI nl) bi14), (oX6 s1 w0 w1 w2 w3 w4 (nI wn) wi6 (nI lv) w8), (oX2 s2 d0 d1 d2), (aIc cI b0 8 B0), (aIc cI b1 8 B1), (aIc cI b2 8 B2), (aIc cI b3 8 B3), (aIc cI b4 8 B4), (aIc cI b6 8 B6), (aIc cI b8 64 B8), (aIc cI b10 10 B10), (aIc cI b11 10 B11), (aIc cI s5 8 S5), (aIc cI s6 8 S6), (aIc cI s7 8 S7), (aIc cI s8 8 S8), (aIc cI s9 8 S9), (aIc cI s10 8 S10), (aIc cI s11 8 S11), (aIc cI w0 8 W0), (aIc cI w1 8 W1), (aIc cI w2 8 W2), (aIc cI w3 8 W3), (aIc cI w4 8 W4), (aIc cI w8 8 W8), (aIc cI d0 8 D0), (aIc cI d1 8 D1), (aJc cJ d2 8 D2), (aIc cI b5 8 B5)] sz)) 0 0 (va_A [(oX7 x x0 x1 x2 x3 x4 x5), (oX4 x1 x0 s1 s2 (nI pn) si4 s5 s6 s7 s8 s9 s10 s11 si12 si13), (oX0 x0 b0 b1 b2 b3 b4 b5 b6 b7 b8 b9 b10 b11 (nI np) (nI nl) bi14), (oX6 s1 w0 w1 w2 w3 w4 (nI wn) wi6 (nI lv) w8), (oX2 s2 d0 d1 d2), (aIc cI b0 8 B0), (aIc cI b1 8 B1), (aIc cI b2 8 B2), (aIc cI b3 8 B3), (aIc cI b4 8 B4), (aIc cI b6 8 B6), (aIc cI b8 64 B8), (aIc cI b10 10 B10), (aIc cI b11 10 B11), (aIc cI s5 8 S5), (aIc cI s6 8 S6), (aIc cI s7 8 S7), (aIc cI s8 8 S8), (aIc cI s9 8 S9), (aIc cI s10 8 S10), (aIc cI s11 8 S11), (aIc cI w0 8 W0), (aIc cI w1 8 W1), (aIc cI w2 8 W2), (aIc cI w3 8 W3), (aIc cI w4 8 W4), (aIc cI w8 8 W8), (aIc cI d0 8 D0), (aIc cI d1 8 D1), (aJc cJ d2 8 D2), (aIc cI b5 8 B5)] sz) := by
  refine k_ofWz (Qc := cQl D (fun r u => ∃ (S5p S6p S7p S8p S9p S10p S11p W1p W2p W3p W4p W8p D0p D1p : Nat → Int32) (D2p : Nat → Int64) (si12p si13p wi6p : Int32) (lvp : Nat) (W0p : Nat → Int32) (si4p : Int32) (wnp pnp : Nat), (lvp ≤ 8) ∧ (wnp < 256) ∧ (pnp < 256) ∧ u = [(oX7 x x0 x1 x2 x3 x4 x5), (oX4 x1 x0 s1 s2 (nI pnp) si4p s5 s6 s7 s8 s9 s10 s11 si12p si13p), (oX0 x0 b0 b1 b2 b3 b4 b5 b6 b7 b8 b9 b10 b11 (nI np) (nI nl) bi14), (oX6 s1 w0 w1 w2 w3 w4 (nI wnp) wi6p (nI lvp) w8), (oX2 s2 d0 d1 d2), (aIc cI b0 8 B0), (aIc cI b1 8 B1), (aIc cI b2 8 B2), (aIc cI b3 8 B3), (aIc cI b4 8 B4), (aIc cI b6 8 B6), (aIc cI b8 64 B8), (aIc cI b10 10 B10), (aIc cI b11 10 B11), (aIc cI s5 8 S5p), (aIc cI s6 8 S6p), (aIc cI s7 8 S7p), (aIc cI s8 8 S8p), (aIc cI s9 8 S9p), (aIc cI s10 8 S10p), (aIc cI s11 8 S11p), (aIc cI w0 8 W0p), (aIc cI w1 8 W1p), (aIc cI w2 8 W2p), (aIc cI w3 8 W3p), (aIc cI w4 8 W4p), (aIc cI w8 8 W8p), (aIc cI d0 8 D0p), (aIc cI d1 8 D1p), (aJc cJ d2 8 D2p), (aIc cI b5 8 B5)])) (by decide) rfl (Nat.le_of_ble_eq_true rfl) ?_
  intro p e s m below meth c A ls hx hb hr hml hts hown hlk hnm hsz hE hP hD hS hA hl hZ
  have hown : s.vm.findClass RX7 = some m.cls := hown
  have hiX7 : ∀ w ∈ u_ws RX7 TX7 6, w ∈ wtX7_shapley := fun w h => List.mem_cons_of_mem _ (iuX7 w h)
  have hiX0 : ∀ w ∈ u_ws RX0 TX0 15, w ∈ wtX7_shapley := fun w h => List.mem_cons_of_mem _ (iuX0 w h)
  have hl : lv_has ls 12 [(0, .ref x), (1, .int p0), (2, .int p1)] := hl
  have h256 := ev_lt hnp
  have h2p := Nat.two_pow_pos np
  refine lv_aload_n hx hb dX7_shapley_0 rfl (lv_at hl 0 rfl) ?_
  refine lv_iload_n hx hb dX7_shapley_1 rfl (lv_at hl 1 rfl) ?_
  refine k_iS (va_runV (As := [.int p0]) (rest := []) ⟨hx, hb, hml, hown, hts⟩ (m_X7_isLoss l D cI cJ (s.heap).size x x0 x1 x2 x3 x4 x5 b0 b1 b2 b3 b4 b5 b6 b7 b8 b9 b10 b11 (nI np) (nI nl) bi14 p0) (cwV 1 hts gX7_shapley_X7_isLoss rfl rfl rfl (by decide +kernel) ⟨Nat.le_of_ble_eq_true rfl, Nat.le_of_ble_eq_true rfl⟩) (k_preV hE hP hD [0, 2] (by decide +kernel) rfl 0 rfl rfl) rfl rfl hl.1 rfl (lv_room (Nat.le_of_ble_eq_true rfl)) dX7_shapley_2 ⟨Nat.le_of_ble_eq_true rfl, Nat.le_of_ble_eq_true rfl⟩) hP hD hS hA [0, 2] rfl (fun _ _ h9 => h9.2) (fun r1 H locs hw2 hP hD hS => ?_)
  obtain ⟨hw2, -⟩ := hw2
  refine lv_if_eq (tgt := 16) hx hb dX7_shapley_5 (by decide) (fun c3 => ?_) (fun c3 => ?_)
  · skip
    have hc3 : ¬ (0 ≤ p0 ∧ p0 ≤ (nI nl) - 1) := bz_0 hw2 c3
    refine lv_ldc2 (v := (-1)) hx hb hown (hts _ (List.mem_cons_of_mem _ wd_631)) dX7_shapley_16 ?_
    refine k_lret (u := [(oX7 x x0 x1 x2 x3 x4 x5), (oX4 x1 x0 s1 s2 (nI pn) si4 s5 s6 s7 s8 s9 s10 s11 si12 si13), (oX0 x0 b0 b1 b2 b3 b4 b5 b6 b7 b8 b9 b10 b11 (nI np) (nI nl) bi14), (oX6 s1 w0 w1 w2 w3 w4 (nI wn) wi6 (nI lv) w8), (oX2 s2 d0 d1 d2), (aIc cI b0 8 B0), (aIc cI b1 8 B1), (aIc cI b2 8 B2), (aIc cI b3 8 B3), (aIc cI b4 8 B4), (aIc cI b6 8 B6), (aIc cI b8 64 B8), (aIc cI b10 10 B10), (aIc cI b11 10 B11), (aIc cI s5 8 S5), (aIc cI s6 8 S6), (aIc cI s7 8 S7), (aIc cI s8 8 S8), (aIc cI s9 8 S9), (aIc cI s10 8 S10), (aIc cI s11 8 S11), (aIc cI w0 8 W0), (aIc cI w1 8 W1), (aIc cI w2 8 W2), (aIc cI w3 8 W3), (aIc cI w4 8 W4), (aIc cI w8 8 W8), (aIc cI d0 8 D0), (aIc cI d1 8 D1), (aJc cJ d2 8 D2), (aIc cI b5 8 B5)]) hx hb hr hlk hP hD hS dX7_shapley_19 ?_
    exact ⟨S5, S6, S7, S8, S9, S10, S11, W1, W2, W3, W4, W8, D0, D1, D2, si12, si13, wi6, lv, W0, si4, wn, pn, (by omega), (by omega), (by first | omega | exact ev_lt hnp), rfl⟩
  · skip
    have hc3 : 0 ≤ p0 ∧ p0 ≤ (nI nl) - 1 := bz_1 hw2 c3
    refine lv_aload_n hx hb dX7_shapley_8 rfl (lv_at hl 0 rfl) ?_
    refine lv_iload_n hx hb dX7_shapley_9 rfl (lv_at hl 2 rfl) ?_
    refine k_iS (va_runV (As := [.int p1]) (rest := []) ⟨hx, hb, hml, hown, hts⟩ (m_X7_isPolicy l D cI cJ H.size x x0 x1 x2 x3 x4 x5 b0 b1 b2 b3 b4 b5 b6 b7 b8 b9 b10 b11 (nI np) (nI nl) bi14 p1) (cwV 1 hts gX7_shapley_X7_isPolicy rfl rfl rfl (by decide +kernel) ⟨Nat.le_of_ble_eq_true rfl, Nat.le_of_ble_eq_true rfl⟩) (k_preV hE hP hD [0, 2] (by decide +kernel) rfl 0 rfl rfl) rfl rfl hl.1 rfl (lv_room (Nat.le_of_ble_eq_true rfl)) dX7_shapley_10 ⟨Nat.le_of_ble_eq_true rfl, Nat.le_of_ble_eq_true rfl⟩) hP hD hS hA [0, 2] rfl (fun _ _ h9 => h9.2) (fun r4 H locs hw5 hP hD hS => ?_)
    obtain ⟨hw5, -⟩ := hw5
    refine lv_if_ne (tgt := 20) hx hb dX7_shapley_13 (by decide) (fun c6 => ?_) (fun c6 => ?_)
    · skip
      have hc6 : 0 ≤ p1 ∧ p1 ≤ (nI np) - 1 := bz_1 hw5 c6
      obtain ⟨lj, hlj, elj⟩ := wi_n (by omega) hc3
      rw [elj] at hl
      obtain ⟨pj, hpj, epj⟩ := wi_n (by omega) hc6
      rw [epj] at hl
      refine lv_aload_n hx hb dX7_shapley_20 rfl (lv_at hl 0 rfl) ?_
      refine va_get (D := D) (ci := 7) (v := .ref x0) (C := RX7) (T := TX7) (N := 6) hx hb hts hiX7 hown hE.1 hP 0 rfl rfl 0 (by decide) (hts _ (List.mem_cons_of_mem _ wd_19)) (fun _ h9 => h9) rfl dX7_shapley_21 ?_
      refine k_iS (va_runV (As := []) (rest := []) ⟨hx, hb, hml, hown, hts⟩ (m_X0_everyone l D cI cJ H.size x0 b0 b1 b2 b3 b4 b5 b6 b7 b8 b9 b10 b11 np nl bi14 hnp) (cwV 0 hts gX7_shapley_X0_everyone rfl rfl rfl (by decide +kernel) ⟨Nat.le_of_ble_eq_true rfl, Nat.le_of_ble_eq_true rfl⟩) (k_preV hE hP hD [2] (by decide +kernel) rfl 2 rfl rfl) rfl rfl hl.1 rfl (lv_room (Nat.le_of_ble_eq_true rfl)) dX7_shapley_24 ⟨Nat.le_of_ble_eq_true rfl, Nat.le_of_ble_eq_true rfl⟩) hP hD hS hA [2] rfl (fun _ _ ⟨_, h9⟩ => h9) (fun r7 H locs hw8 hP hD hS => ?_)
      obtain ⟨rfl, -⟩ := hw8
      refine lv_istore_n (lv' := [(3, .int (nI (2 ^ np - 1))), (0, .ref x), (1, .int (nI lj)), (2, .int (nI pj))]) hx hb dX7_shapley_27 rfl hl (by decide) rfl (fun ls hl => ?_)
      refine lv_lconst (v := 0) hx hb dX7_shapley_28 (by decide) ?_
      refine lv_lstore (lv' := [(4, .long 0), (3, .int (nI (2 ^ np - 1))), (0, .ref x), (1, .int (nI lj)), (2, .int (nI pj))]) hx hb dX7_shapley_29 hl (by decide) rfl (fun ls hl => ?_)
      refine lv_iconst (v := 0) hx hb dX7_shapley_31 (by decide) ?_
      refine lv_istore (lv' := [(6, .int 0), (4, .long 0), (3, .int (nI (2 ^ np - 1))), (0, .ref x), (1, .int (nI lj)), (2, .int (nI pj))]) hx hb dX7_shapley_32 hl (by decide) rfl (fun ls hl => ?_)
      have J34 : ∀ (zz : Nat) (i34 : Nat) (h4_34 : Int64) (a_s5_34 a_s6_34 a_s7_34 a_s8_34 a_s9_34 a_s10_34 a_s11_34 a_w1_34 a_w2_34 a_w3_34 a_w4_34 a_w8_34 a_d0_34 a_d1_34 : Nat → Int32) (a_d2_34 : Nat → Int64) (f4_12_34 f4_13_34 f6_6_34 : Int32) (f6_7_34 : Nat) (a_w0_34 : Nat → Int32) (f4_4_34 : Int32) (f6_5_34 f4_3_34 : Nat), (i34 ≤ 2 ^ np) → (f6_7_34 ≤ 8) → (f6_5_34 < 256) → (f4_3_34 < 256) → (2 ^ np - i34) < zz → ∀ (H : Heap) (locs : List Loc) (ls : Array Slot), va_P D vwCl [(oX7 x x0 x1 x2 x3 x4 x5), (oX4 x1 x0 s1 s2 (nI f4_3_34) f4_4_34 s5 s6 s7 s8 s9 s10 s11 f4_12_34 f4_13_34), (oX0 x0 b0 b1 b2 b3 b4 b5 b6 b7 b8 b9 b10 b11 (nI np) (nI nl) bi14), (oX6 s1 w0 w1 w2 w3 w4 (nI f6_5_34) f6_6_34 (nI f6_7_34) w8), (oX2 s2 d0 d1 d2), (aIc cI b0 8 B0), (aIc cI b1 8 B1), (aIc cI b2 8 B2), (aIc cI b3 8 B3), (aIc cI b4 8 B4), (aIc cI b6 8 B6), (aIc cI b8 64 B8), (aIc cI b10 10 B10), (aIc cI b11 10 B11), (aIc cI s5 8 a_s5_34), (aIc cI s6 8 a_s6_34), (aIc cI s7 8 a_s7_34), (aIc cI s8 8 a_s8_34), (aIc cI s9 8 a_s9_34), (aIc cI s10 8 a_s10_34), (aIc cI s11 8 a_s11_34), (aIc cI w0 8 a_w0_34), (aIc cI w1 8 a_w1_34), (aIc cI w2 8 a_w2_34), (aIc cI w3 8 a_w3_34), (aIc cI w4 8 a_w4_34), (aIc cI w8 8 a_w8_34), (aIc cI d0 8 a_d0_34), (aIc cI d1 8 a_d1_34), (aJc cJ d2 8 a_d2_34), (aIc cI b5 8 B5)] H → va_D A [(oX7 x x0 x1 x2 x3 x4 x5), (oX4 x1 x0 s1 s2 (nI f4_3_34) f4_4_34 s5 s6 s7 s8 s9 s10 s11 f4_12_34 f4_13_34), (oX0 x0 b0 b1 b2 b3 b4 b5 b6 b7 b8 b9 b10 b11 (nI np) (nI nl) bi14), (oX6 s1 w0 w1 w2 w3 w4 (nI f6_5_34) f6_6_34 (nI f6_7_34) w8), (oX2 s2 d0 d1 d2), (aIc cI b0 8 B0), (aIc cI b1 8 B1), (aIc cI b2 8 B2), (aIc cI b3 8 B3), (aIc cI b4 8 B4), (aIc cI b6 8 B6), (aIc cI b8 64 B8), (aIc cI b10 10 B10), (aIc cI b11 10 B11), (aIc cI s5 8 a_s5_34), (aIc cI s6 8 a_s6_34), (aIc cI s7 8 a_s7_34), (aIc cI s8 8 a_s8_34), (aIc cI s9 8 a_s9_34), (aIc cI s10 8 a_s10_34), (aIc cI s11 8 a_s11_34), (aIc cI w0 8 a_w0_34), (aIc cI w1 8 a_w1_34), (aIc cI w2 8 a_w2_34), (aIc cI w3 8 a_w3_34), (aIc cI w4 8 a_w4_34), (aIc cI w8 8 a_w8_34), (aIc cI d0 8 a_d0_34), (aIc cI d1 8 a_d1_34), (aJc cJ d2 8 a_d2_34), (aIc cI b5 8 B5)] → va_S A s.heap H locs → lv_has ls 12 [(6, .int (nI i34)), (4, .long h4_34), (3, .int (nI (2 ^ np - 1))), (0, .ref x), (1, .int (nI lj)), (2, .int (nI pj))] → W p l e { frames := 6, cells := 0, slots := 0, locals := 147 } s m [.ref x, .int p0, .int p1].toArray below meth c H locs 0 0 (MQ below (cQl D (fun r u => ∃ (S5p S6p S7p S8p S9p S10p S11p W1p W2p W3p W4p W8p D0p D1p : Nat → Int32) (D2p : Nat → Int64) (si12p si13p wi6p : Int32) (lvp : Nat) (W0p : Nat → Int32) (si4p : Int32) (wnp pnp : Nat), (lvp ≤ 8) ∧ (wnp < 256) ∧ (pnp < 256) ∧ u = [(oX7 x x0 x1 x2 x3 x4 x5), (oX4 x1 x0 s1 s2 (nI pnp) si4p s5 s6 s7 s8 s9 s10 s11 si12p si13p), (oX0 x0 b0 b1 b2 b3 b4 b5 b6 b7 b8 b9 b10 b11 (nI np) (nI nl) bi14), (oX6 s1 w0 w1 w2 w3 w4 (nI wnp) wi6p (nI lvp) w8), (oX2 s2 d0 d1 d2), (aIc cI b0 8 B0), (aIc cI b1 8 B1), (aIc cI b2 8 B2), (aIc cI b3 8 B3), (aIc cI b4 8 B4), (aIc cI b6 8 B6), (aIc cI b8 64 B8), (aIc cI b10 10 B10), (aIc cI b11 10 B11), (aIc cI s5 8 S5p), (aIc cI s6 8 S6p), (aIc cI s7 8 S7p), (aIc cI s8 8 S8p), (aIc cI s9 8 S9p), (aIc cI s10 8 S10p), (aIc cI s11 8 S11p), (aIc cI w0 8 W0p), (aIc cI w1 8 W1p), (aIc cI w2 8 W2p), (aIc cI w3 8 W3p), (aIc cI w4 8 W4p), (aIc cI w8 8 W8p), (aIc cI d0 8 D0p), (aIc cI d1 8 D1p), (aJc cJ d2 8 D2p), (aIc cI b5 8 B5)]) A) [.ref x, .int p0, .int p1].toArray s 0 0 A) (F0 m 34 ls []) := by
        intro zz
        induction zz with
        | zero => intro i34 h4_34 a_s5_34 a_s6_34 a_s7_34 a_s8_34 a_s9_34 a_s10_34 a_s11_34 a_w1_34 a_w2_34 a_w3_34 a_w4_34 a_w8_34 a_d0_34 a_d1_34 a_d2_34 f4_12_34 f4_13_34 f6_6_34 f6_7_34 a_w0_34 f4_4_34 f6_5_34 f4_3_34 _ _ _ _; exact fun h => absurd h (Nat.not_lt_zero _)
        | succ zz ih34 =>
          intro i34 h4_34 a_s5_34 a_s6_34 a_s7_34 a_s8_34 a_s9_34 a_s10_34 a_s11_34 a_w1_34 a_w2_34 a_w3_34 a_w4_34 a_w8_34 a_d0_34 a_d1_34 a_d2_34 f4_12_34 f4_13_34 f6_6_34 f6_7_34 a_w0_34 f4_4_34 f6_5_34 f4_3_34 hc6_34 hl8_34 hw8_34 hq8_34 hmu34 H locs ls hP hD hS hl
          refine lv_iload hx hb dX7_shapley_34 (lv_at hl 0 rfl) ?_
          refine lv_iload_n hx hb dX7_shapley_36 rfl (lv_at hl 2 rfl) ?_
          refine lv_icmp_gt (tgt := 122) hx hb dX7_shapley_37 (by decide) (fun c9 => ?_) (fun c9 => ?_)
          · skip
            have nc9 : 2 ^ np - 1 < i34 := (nI_ltI (a := (2 ^ np - 1)) (b := i34) (by omega) (by omega)).mp c9
            refine lv_lload hx hb dX7_shapley_122 (lv_at hl 1 rfl) ?_
            refine k_lret (u := [(oX7 x x0 x1 x2 x3 x4 x5), (oX4 x1 x0 s1 s2 (nI f4_3_34) f4_4_34 s5 s6 s7 s8 s9 s10 s11 f4_12_34 f4_13_34), (oX0 x0 b0 b1 b2 b3 b4 b5 b6 b7 b8 b9 b10 b11 (nI np) (nI nl) bi14), (oX6 s1 w0 w1 w2 w3 w4 (nI f6_5_34) f6_6_34 (nI f6_7_34) w8), (oX2 s2 d0 d1 d2), (aIc cI b0 8 B0), (aIc cI b1 8 B1), (aIc cI b2 8 B2), (aIc cI b3 8 B3), (aIc cI b4 8 B4), (aIc cI b6 8 B6), (aIc cI b8 64 B8), (aIc cI b10 10 B10), (aIc cI b11 10 B11), (aIc cI s5 8 a_s5_34), (aIc cI s6 8 a_s6_34), (aIc cI s7 8 a_s7_34), (aIc cI s8 8 a_s8_34), (aIc cI s9 8 a_s9_34), (aIc cI s10 8 a_s10_34), (aIc cI s11 8 a_s11_34), (aIc cI w0 8 a_w0_34), (aIc cI w1 8 a_w1_34), (aIc cI w2 8 a_w2_34), (aIc cI w3 8 a_w3_34), (aIc cI w4 8 a_w4_34), (aIc cI w8 8 a_w8_34), (aIc cI d0 8 a_d0_34), (aIc cI d1 8 a_d1_34), (aJc cJ d2 8 a_d2_34), (aIc cI b5 8 B5)]) hx hb hr hlk hP hD hS dX7_shapley_124 ?_
            exact ⟨a_s5_34, a_s6_34, a_s7_34, a_s8_34, a_s9_34, a_s10_34, a_s11_34, a_w1_34, a_w2_34, a_w3_34, a_w4_34, a_w8_34, a_d0_34, a_d1_34, a_d2_34, f4_12_34, f4_13_34, f6_6_34, f6_7_34, a_w0_34, f4_4_34, f6_5_34, f4_3_34, (by omega), (by omega), (by first | omega | exact ev_lt hnp), rfl⟩
          · skip
            have nc9 : ¬ 2 ^ np - 1 < i34 := fun q9 => c9 ((nI_ltI (a := (2 ^ np - 1)) (b := i34) (by omega) (by omega)).mpr q9)
            refine lv_iload hx hb dX7_shapley_40 (lv_at hl 0 rfl) ?_
            refine lv_iconst (v := 1) hx hb dX7_shapley_42 (by decide) ?_
            refine lv_iload_n hx hb dX7_shapley_43 rfl (lv_at hl 5 rfl) ?_
            refine lv_ishl hx hb dX7_shapley_44 ?_
            refine lv_topi (fun v10 ev10 => ?_)
            refine lv_iconst (v := (-1)) hx hb dX7_shapley_45 (by decide) ?_
            refine lv_ixor hx hb dX7_shapley_46 ?_
            refine lv_topi (fun v11 ev11 => ?_)
            refine lv_iand hx hb dX7_shapley_47 ?_
            refine lv_topi (fun v12 ev12 => ?_)
            refine k_iS (va_runS (As := [.int v12]) (rest := []) ⟨hx, hb, hml, hown, hts⟩ (m_bitCount l D cI cJ H.size v12) (va_cwS 1 hts gX7_shapley_J6_bitCount_0f7a4 rfl rfl rfl (by decide +kernel) ⟨Nat.le_of_ble_eq_true rfl, Nat.le_of_ble_eq_true rfl⟩) (k_pre hE hP hD [] (by decide +kernel) rfl) rfl rfl hl.1 rfl (lv_room (Nat.le_of_ble_eq_true rfl)) dX7_shapley_48 ⟨Nat.le_of_ble_eq_true rfl, Nat.le_of_ble_eq_true rfl⟩) hP hD hS hA [] rfl (fun _ _ ⟨_, h9⟩ => h9) (fun r13 H locs hw14 hP hD hS => ?_)
            obtain ⟨rfl, -⟩ := hw14
            obtain ⟨oc, hoc, eoc⟩ := bcn hnp hpj (by omega) ev10 ev11 ev12
            rw [eoc]
            refine lv_istore (lv' := [(7, .int (nI oc)), (6, .int (nI i34)), (4, .long h4_34), (3, .int (nI (2 ^ np - 1))), (0, .ref x), (1, .int (nI lj)), (2, .int (nI pj))]) hx hb dX7_shapley_51 hl (by decide) rfl (fun ls hl => ?_)
            refine va_gets hx hb hZ.1 hS hown (hts _ (List.mem_cons_of_mem _ wd_857)) (fun _ h9 => h9) dX7_shapley_53 ?_
            refine lv_iload hx hb dX7_shapley_56 (lv_at hl 0 rfl) ?_
            refine va_tl hx hb hZ.2 hS (vp_in_nI (n := oc) (by omega) (by decide)) rfl dX7_shapley_58 ?_
            refine lv_topl (fun v15 ev15 => ?_)
            refine va_gets hx hb hZ.1 hS hown (hts _ (List.mem_cons_of_mem _ wd_857)) (fun _ h9 => h9) dX7_shapley_59 ?_
            refine lv_aload_n hx hb dX7_shapley_62 rfl (lv_at hl 4 rfl) ?_
            refine va_get (D := D) (ci := 7) (v := .ref x0) (C := RX7) (T := TX7) (N := 6) hx hb hts hiX7 hown hE.1 hP 0 rfl rfl 0 (by decide) (hts _ (List.mem_cons_of_mem _ wd_19)) (fun _ h9 => h9) rfl dX7_shapley_63 ?_
            refine va_get (D := D) (ci := 0) (v := .int (nI np)) (C := RX0) (T := TX0) (N := 15) hx hb hts hiX0 hown hE.1 hP 2 rfl rfl 12 (by decide) (hts _ (List.mem_cons_of_mem _ wd_158)) (fun _ h9 => h9) rfl dX7_shapley_66 ?_
            refine lv_iconst (v := 1) hx hb dX7_shapley_69 (by decide) ?_
            refine lv_isub hx hb dX7_shapley_70 ?_
            refine lv_topi (fun v16 ev16 => ?_)
            obtain rfl : v16 = nI (np - 1) := by rw [ev16]; exact pk_sub (a := np) (b := 1) (by omega)
            refine lv_iload hx hb dX7_shapley_71 (lv_at hl 0 rfl) ?_
            refine lv_isub hx hb dX7_shapley_73 ?_
            refine lv_topi (fun v17 ev17 => ?_)
            obtain rfl : v17 = nI (np - 1 - oc) := by rw [ev17]; exact pk_sub (by omega)
            refine va_tl hx hb hZ.2 hS (vp_in_nI (n := np - 1 - oc) (by omega) (by decide)) rfl dX7_shapley_74 ?_
            refine lv_topl (fun v18 ev18 => ?_)
            refine lv_lmul hx hb dX7_shapley_75 ?_
            refine lv_topl (fun v19 ev19 => ?_)
            refine lv_lstore (lv' := [(8, .long v19), (7, .int (nI oc)), (6, .int (nI i34)), (4, .long h4_34), (3, .int (nI (2 ^ np - 1))), (0, .ref x), (1, .int (nI lj)), (2, .int (nI pj))]) hx hb dX7_shapley_76 hl (by decide) rfl (fun ls hl => ?_)
            refine lv_aload_n hx hb dX7_shapley_78 rfl (lv_at hl 5 rfl) ?_
            refine lv_iload_n hx hb dX7_shapley_79 rfl (lv_at hl 6 rfl) ?_
            refine lv_iload hx hb dX7_shapley_80 (lv_at hl 2 rfl) ?_
            refine k_i (va_runV (As := [.int (nI lj), .int (nI i34)]) (rest := []) ⟨hx, hb, hml, hown, hts⟩ (m_X7_totalOfSet l D cI cJ H.size x x0 x1 x2 x3 x4 x5 s1 s2 s5 s6 s7 s8 s9 s10 s11 b0 b1 b2 b3 b4 b5 b6 b7 b8 b9 b10 b11 w0 w1 w2 w3 w4 w8 d0 d1 d2 i34 f6_5_34 f6_7_34 np nl f4_3_34 f4_4_34 f4_12_34 f4_13_34 bi14 f6_6_34 (nI lj) B0 B1 B2 B3 B4 B6 B8 B10 B11 a_s5_34 a_s6_34 a_s7_34 a_s8_34 a_s9_34 a_s10_34 a_s11_34 a_w0_34 a_w1_34 a_w2_34 a_w3_34 a_w4_34 a_w8_34 a_d0_34 a_d1_34 a_d2_34 B5 hw8_34 hl8_34 hli hnp hnl hq8_34 (by omega)) (cwV 2 hts gX7_shapley_X7_totalOfSet rfl rfl rfl (by decide +kernel) ⟨Nat.le_of_ble_eq_true rfl, Nat.le_of_ble_eq_true rfl⟩) (k_preV hE hP hD [0, 1, 2, 3, 4, 5, 6, 7, 8, 9, 10, 11, 12, 13, 14, 15, 16, 17, 18, 19, 20, 21, 22, 23, 24, 25, 26, 27, 28, 29, 30] (by decide +kernel) rfl 0 rfl rfl) rfl rfl hl.1 rfl (lv_room (Nat.le_of_ble_eq_true rfl)) dX7_shapley_82 ⟨Nat.le_of_ble_eq_true rfl, Nat.le_of_ble_eq_true rfl⟩) hP hD hS hA [0, 1, 2, 3, 4, 5, 6, 7, 8, 9, 10, 11, 12, 13, 14, 15, 16, 17, 18, 19, 20, 21, 22, 23, 24, 25, 26, 27, 28, 29, 30] [] rfl (wr := []) rfl (by decide +kernel) (by decide +kernel) (fun r20 u H locs hw21 hP hD hS => ?_)
            obtain ⟨z22, z23, z24, z25, z26, z27, z28, z29, z30, z31, z32, z33, z34, z35, z36, z37, z38, z39, z40, z41, z42, z43, z44, hz45, hz46, hz47, rfl⟩ := hw21
            refine k_re (w := [(oX7 x x0 x1 x2 x3 x4 x5), (oX4 x1 x0 s1 s2 (nI z44) z42 s5 s6 s7 s8 s9 s10 s11 z37 z38), (oX0 x0 b0 b1 b2 b3 b4 b5 b6 b7 b8 b9 b10 b11 (nI np) (nI nl) bi14), (oX6 s1 w0 w1 w2 w3 w4 (nI z43) z39 (nI z40) w8), (oX2 s2 d0 d1 d2), (aIc cI b0 8 B0), (aIc cI b1 8 B1), (aIc cI b2 8 B2), (aIc cI b3 8 B3), (aIc cI b4 8 B4), (aIc cI b6 8 B6), (aIc cI b8 64 B8), (aIc cI b10 10 B10), (aIc cI b11 10 B11), (aIc cI s5 8 z22), (aIc cI s6 8 z23), (aIc cI s7 8 z24), (aIc cI s8 8 z25), (aIc cI s9 8 z26), (aIc cI s10 8 z27), (aIc cI s11 8 z28), (aIc cI w0 8 z41), (aIc cI w1 8 z29), (aIc cI w2 8 z30), (aIc cI w3 8 z31), (aIc cI w4 8 z32), (aIc cI w8 8 z33), (aIc cI d0 8 z34), (aIc cI d1 8 z35), (aJc cJ d2 8 z36), (aIc cI b5 8 B5)]) hP hD (fun hP hD => ?_)
            refine lv_i2l hx hb dX7_shapley_85 rfl ?_
            refine lv_topl (fun v48 ev48 => ?_)
            refine lv_lstore (lv' := [(10, .long v48), (8, .long v19), (7, .int (nI oc)), (6, .int (nI i34)), (4, .long h4_34), (3, .int (nI (2 ^ np - 1))), (0, .ref x), (1, .int (nI lj)), (2, .int (nI pj))]) hx hb dX7_shapley_86 hl (by decide) rfl (fun ls hl => ?_)
            refine lv_lload hx hb dX7_shapley_88 (lv_at hl 4 rfl) ?_
            refine lv_iload hx hb dX7_shapley_90 (lv_at hl 3 rfl) ?_
            refine lv_iload_n hx hb dX7_shapley_92 rfl (lv_at hl 8 rfl) ?_
            refine k_iS (va_runS (As := [.int (nI i34), .int (nI pj)]) (rest := [.long h4_34]) ⟨hx, hb, hml, hown, hts⟩ (m_X7_has l D cI cJ H.size (nI i34) (nI pj)) (va_cwS 2 hts gX7_shapley_X7_has rfl rfl rfl (by decide +kernel) ⟨Nat.le_of_ble_eq_true rfl, Nat.le_of_ble_eq_true rfl⟩) (k_pre hE hP hD [] (by decide +kernel) rfl) rfl rfl hl.1 rfl (lv_room (Nat.le_of_ble_eq_true rfl)) dX7_shapley_93 ⟨Nat.le_of_ble_eq_true rfl, Nat.le_of_ble_eq_true rfl⟩) hP hD hS hA [] rfl (fun _ _ h9 => h9.2) (fun r49 H locs hw50 hP hD hS => ?_)
            obtain ⟨hw50, -⟩ := hw50
            refine lv_if_eq (tgt := 107) hx hb dX7_shapley_96 (by decide) (fun c51 => ?_) (fun c51 => ?_)
            · skip
              have hc51 : ¬ (¬ ((nI i34) >>> ((nI pj) &&& 31)) &&& 1 = 0) := bz_0 hw50 c51
              refine lv_lload hx hb dX7_shapley_107 (lv_at hl 1 rfl) ?_
              refine lv_lneg hx hb dX7_shapley_109 ?_
              refine lv_topl (fun v52 ev52 => ?_)
              refine lv_lload hx hb dX7_shapley_110 (lv_at hl 0 rfl) ?_
              refine lv_lmul hx hb dX7_shapley_112 ?_
              refine lv_topl (fun v53 ev53 => ?_)
              refine lv_ladd hx hb dX7_shapley_113 ?_
              refine lv_topl (fun v54 ev54 => ?_)
              refine lv_lstore (lv' := [(4, .long v54), (10, .long v48), (8, .long v19), (7, .int (nI oc)), (6, .int (nI i34)), (3, .int (nI (2 ^ np - 1))), (0, .ref x), (1, .int (nI lj)), (2, .int (nI pj))]) hx hb dX7_shapley_114 hl (by decide) rfl (fun ls hl => ?_)
              refine lv_iinc (v := (nI (i34 + 1))) (lv' := [(6, .int (nI (i34 + 1))), (4, .long v54), (10, .long v48), (8, .long v19), (7, .int (nI oc)), (3, .int (nI (2 ^ np - 1))), (0, .ref x), (1, .int (nI lj)), (2, .int (nI pj))]) hx hb dX7_shapley_116 hl (k := 4) rfl (nI_1 _) (by decide) rfl (fun ls hl => ?_)
              refine lv_goto (tgt := 34) hx hb dX7_shapley_119 (by decide) ?_
              exact ih34 (i34 + 1) v54 z22 z23 z24 z25 z26 z27 z28 z29 z30 z31 z32 z33 z34 z35 z36 z37 z38 z39 z40 z41 z42 z43 z44 (by omega) hz45 hz46 hz47 (by omega) _ _ _ hP hD hS (lv_sub hl [0, 1, 5, 6, 7, 8] rfl)
            · skip
              have hc51 : ¬ ((nI i34) >>> ((nI pj) &&& 31)) &&& 1 = 0 := bz_1 hw50 c51
              refine lv_lload hx hb dX7_shapley_99 (lv_at hl 1 rfl) ?_
              refine lv_lload hx hb dX7_shapley_101 (lv_at hl 0 rfl) ?_
              refine lv_lmul hx hb dX7_shapley_103 ?_
              refine lv_topl (fun v55 ev55 => ?_)
              refine lv_goto (tgt := 113) hx hb dX7_shapley_104 (by decide) ?_
              refine lv_ladd hx hb dX7_shapley_113 ?_
              refine lv_topl (fun v56 ev56 => ?_)
              refine lv_lstore (lv' := [(4, .long v56), (10, .long v48), (8, .long v19), (7, .int (nI oc)), (6, .int (nI i34)), (3, .int (nI (2 ^ np - 1))), (0, .ref x), (1, .int (nI lj)), (2, .int (nI pj))]) hx hb dX7_shapley_114 hl (by decide) rfl (fun ls hl => ?_)
              refine lv_iinc (v := (nI (i34 + 1))) (lv' := [(6, .int (nI (i34 + 1))), (4, .long v56), (10, .long v48), (8, .long v19), (7, .int (nI oc)), (3, .int (nI (2 ^ np - 1))), (0, .ref x), (1, .int (nI lj)), (2, .int (nI pj))]) hx hb dX7_shapley_116 hl (k := 4) rfl (nI_1 _) (by decide) rfl (fun ls hl => ?_)
              refine lv_goto (tgt := 34) hx hb dX7_shapley_119 (by decide) ?_
              exact ih34 (i34 + 1) v56 z22 z23 z24 z25 z26 z27 z28 z29 z30 z31 z32 z33 z34 z35 z36 z37 z38 z39 z40 z41 z42 z43 z44 (by omega) hz45 hz46 hz47 (by omega) _ _ _ hP hD hS (lv_sub hl [0, 1, 5, 6, 7, 8] rfl)
      exact J34 _ 0 0 S5 S6 S7 S8 S9 S10 S11 W1 W2 W3 W4 W8 D0 D1 D2 si12 si13 wi6 lv W0 si4 wn pn (by omega) hlv hwn hpn (Nat.lt_succ_self _) _ _ _ hP hD hS (lv_sub hl [0, 1, 2, 3, 4, 5] rfl)
    · skip
      have hc6 : ¬ (0 ≤ p1 ∧ p1 ≤ (nI np) - 1) := bz_0 hw5 c6
      refine lv_ldc2 (v := (-1)) hx hb hown (hts _ (List.mem_cons_of_mem _ wd_631)) dX7_shapley_16 ?_
      refine k_lret (u := [(oX7 x x0 x1 x2 x3 x4 x5), (oX4 x1 x0 s1 s2 (nI pn) si4 s5 s6 s7 s8 s9 s10 s11 si12 si13), (oX0 x0 b0 b1 b2 b3 b4 b5 b6 b7 b8 b9 b10 b11 (nI np) (nI nl) bi14), (oX6 s1 w0 w1 w2 w3 w4 (nI wn) wi6 (nI lv) w8), (oX2 s2 d0 d1 d2), (aIc cI b0 8 B0), (aIc cI b1 8 B1), (aIc cI b2 8 B2), (aIc cI b3 8 B3), (aIc cI b4 8 B4), (aIc cI b6 8 B6), (aIc cI b8 64 B8), (aIc cI b10 10 B10), (aIc cI b11 10 B11), (aIc cI s5 8 S5), (aIc cI s6 8 S6), (aIc cI s7 8 S7), (aIc cI s8 8 S8), (aIc cI s9 8 S9), (aIc cI s10 8 S10), (aIc cI s11 8 S11), (aIc cI w0 8 W0), (aIc cI w1 8 W1), (aIc cI w2 8 W2), (aIc cI w3 8 W3), (aIc cI w4 8 W4), (aIc cI w8 8 W8), (aIc cI d0 8 D0), (aIc cI d1 8 D1), (aJc cJ d2 8 D2), (aIc cI b5 8 B5)]) hx hb hr hlk hP hD hS dX7_shapley_19 ?_
      exact ⟨S5, S6, S7, S8, S9, S10, S11, W1, W2, W3, W4, W8, D0, D1, D2, si12, si13, wi6, lv, W0, si4, wn, pn, (by omega), (by omega), (by first | omega | exact ev_lt hnp), rfl⟩

