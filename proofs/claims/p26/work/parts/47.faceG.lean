def fct (j : Nat) : Int64 := match j with | 0 => 1 | 1 => 1 | 2 => 2 | 3 => 6 | 4 => 24 | 5 => 120 | 6 => 720 | 7 => 5040 | _ => 0
/-- the static row of factorials, which nobody writes -/
def fz (tf : Nat) (A : Nat → Prop) (U : State) (H : Heap) : Prop := va_Z RX7 "FACTORIALS" "[J" (.ref tf) A U H ∧ va_T .long tf 8 (fun j => .long (fct j)) A U H
theorem fz.moved {tf : Nat} {A : Nat → Prop} {u U : State} {H : Heap} (hv : u.vm.Alike U.vm) (h : fz tf A u H) : fz tf A U H := ⟨va_Z.moved hv h.1, va_T.moved hv h.2⟩
theorem fz.kept {tf : Nat} {A : Nat → Prop} {U : State} {H H1 : Heap} (h : fz tf A U H) (hq : ∀ a : Nat, a < H.size → ¬ A a → H1[a]? = H[a]?) : fz tf A U H1 := ⟨h.1.kept hq, h.2.kept hq⟩
theorem fz.narrow {tf : Nat} {A B : Nat → Prop} {U : State} {H : Heap} (h : fz tf A U H) (hAB : ∀ q, B q → A q) : fz tf B U H := ⟨h.1.narrow hAB, h.2.narrow hAB⟩
def cPz (tf : Nat) (D : va_G) (cI cJ : ClassId) (av : List Value) (sz : Nat) (WS : va_W) : Array Value → State → Prop := va_Pc av (fun U => cB D cI cJ sz WS U ∧ fz tf (va_A WS sz) U U.heap)
theorem cPz_blind {tf : Nat} {D : va_G} {cI cJ : ClassId} {av : List Value} {sz : Nat} {WS : va_W} : FrameBlind (cPz tf D cI cJ av sz WS) := fun a U g mk q => ⟨q.1, (cPc_blind (D := D) (cI := cI) (cJ := cJ) (av := av) (sz := sz) (WS := WS) a U g mk ⟨q.1, q.2.1⟩).2, fz.moved (u := U) (Vm.Alike.refl U.vm) q.2.2⟩
theorem k_preVz {tf : Nat} {s : State} {H : Heap} {D : va_G} {cI cJ : ClassId} {A : Nat → Prop} {w wc : va_W} {As : List Value} {locs : List Loc} {b ci : Nat} {fs : List Value} {C : String} {T : u_T} {N : Nat} (hE : eK D cI cJ s) (hP : va_P D vwCl w H) (hD : va_D A w) (hS : va_S A s.heap H locs) (hA : ∀ q, s.heap.size ≤ q → A q) (hZ : fz tf A s s.heap) (isC : List Nat) (hn : va_nd isC = true) (hC : isC.map (fun i => w[i]?) = wc.map some) (q0 : Nat) (he : w[q0]? = some (b, .inr (ci, fs))) (hc : vwCl[ci]? = some (C, T, N)) : PreV s H C b (cPz tf D cI cJ (.ref b :: As) H.size wc) As := by
  refine ⟨cPz_blind, va_recv hE.1 hP (ci := ci) (q0 := q0) hc he, fun U hU hW => ?_⟩
  have h1 := (k_pre (As := .ref b :: As) hE hP hD isC hn hC).2 U hU hW
  have h2 : fz tf A s H := hZ.kept (fun a h3 h4 => hS.2.1 a h3 h4)
  refine ⟨h1.1, h1.2, ?_⟩
  rw [hU]
  exact fz.moved hW.alike (h2.narrow (va_free (wc := wc) hD hS hA isC hC))
theorem k_ofWz {tf : Nat} {l : Launch} {y : MethodName} {ws ws' : List Cond} {rm : Room} {cc : ByteArray} {maxL : Nat} {ret : Option FieldType} {D : va_G} {cI cJ : ClassId} {av : List Value} {sz : Nat} {WS : va_W} {Qc : (Nat → Prop) → Array Value → State → Outcome → State → Prop} {mc ms : Nat}
    (hy : plainName y.cls = true) (hw : ws = Cond.code y cc maxL ret :: ws') (hav : (lg_sl av).length ≤ maxL)
    (body : ∀ (p : Program) (e : Env) (s : State) (m : MethodId) (below : List Frame) (meth : Method) (c : Code) (A : Nat → Prop) (ls : Array Slot), p.tables.exec = Jvm.exec → c.code = cc → meth.sig.returnType = ret → c.maxLocals = maxL → (∀ w ∈ ws, w.before av.toArray s = true) → s.vm.findClass y.cls = some m.cls → meth.locks = false → meth.name = y.name → s.heap.size = sz → eK D cI cJ s → va_P D vwCl WS s.heap → va_D A WS → va_S A s.heap s.heap [] → (∀ q, s.heap.size ≤ q → A q) → lv_has ls maxL (lv_args 0 av) → fz tf A s s.heap →
      W p l e rm s m av.toArray below meth c s.heap [] 0 0 (MQ below (Qc A) av.toArray s mc ms A) (F0 m 0 ls [])) : Met l y ws rm (cPz tf D cI cJ av sz WS) (Qc (va_A WS sz)) mc ms (va_A WS sz) := by
  refine Met.ofW (cc := cc) (maxL := maxL) (ret := ret) hy hw ?_
  intro p e s m args below meth c s₁ B hml hv
  obtain ⟨rfl, ⟨hsz, hP, hE, hD0⟩, hZ⟩ := hv
  have hts := atoms_spec (ws := ws) B.pre
  have hD := hD0.self (sz := s.heap.size)
  subst hsz
  have hl := lv_entry av (n := maxL) hav
  rw [lg_entry_eq]
  exact body p e s m below meth c _ _ B.exec B.bytes B.returns hml hts (findClass_of_methodNamed B.named) B.notSynchronized (name_of_methodNamed B.named B.method).1 rfl hE hP hD va_S.rf (fun q h => Or.inr h) hl hZ
def pcx (s p : Nat) : Nat := (if 0 = p then 0 else s % 2) + (if 1 = p then 0 else s / 2 % 2) + (if 2 = p then 0 else s / 4 % 2) + (if 3 = p then 0 else s / 8 % 2) + (if 4 = p then 0 else s / 16 % 2) + (if 5 = p then 0 else s / 32 % 2) + (if 6 = p then 0 else s / 64 % 2) + (if 7 = p then 0 else s / 128 % 2)
theorem bcn_t1 : ∀ p : Fin 8, ∀ s : Fin 256, bc (nI s.val &&& (((1 : Int32) <<< (nI p.val &&& 31)) ^^^ (-1))) = nI (pcx s.val p.val) := by decide +kernel
theorem bcn_t2 : ∀ n : Fin 9, ∀ p : Fin 8, ∀ s : Fin 256, p.val < n.val → s.val < 2 ^ n.val → pcx s.val p.val + 1 ≤ n.val := by decide +kernel
theorem dX7_shapley_0 : decode cX7_shapley 0 = .ok (.aload_n 0, 1) := by decide +kernel
theorem dX7_shapley_1 : decode cX7_shapley 1 = .ok (.iload_n 1, 1) := by decide +kernel
theorem dX7_shapley_2 : decode cX7_shapley 2 = .ok (.invokevirtual 137, 3) := by decide +kernel
theorem dX7_shapley_5 : decode cX7_shapley 5 = .ok (.ifCond .eq 11, 3) := by decide +kernel
theorem dX7_shapley_8 : decode cX7_shapley 8 = .ok (.aload_n 0, 1) := by decide +kernel
theorem dX7_shapley_9 : decode cX7_shapley 9 = .ok (.iload_n 2, 1) := by decide +kernel
theorem dX7_shapley_10 : decode cX7_shapley 10 = .ok (.invokevirtual 74, 3) := by decide +kernel
theorem dX7_shapley_13 : decode cX7_shapley 13 = .ok (.ifCond .ne 7, 3) := by decide +kernel
theorem dX7_shapley_16 : decode cX7_shapley 16 = .ok (.ldc2_w 203, 3) := by decide +kernel
theorem dX7_shapley_19 : decode cX7_shapley 19 = .ok (.lreturn, 1) := by decide +kernel
theorem dX7_shapley_20 : decode cX7_shapley 20 = .ok (.aload_n 0, 1) := by decide +kernel
theorem dX7_shapley_21 : decode cX7_shapley 21 = .ok (.getfield 20, 3) := by decide +kernel
theorem dX7_shapley_24 : decode cX7_shapley 24 = .ok (.invokevirtual 280, 3) := by decide +kernel
theorem dX7_shapley_27 : decode cX7_shapley 27 = .ok (.istore_n 3, 1) := by decide +kernel
theorem dX7_shapley_28 : decode cX7_shapley 28 = .ok (.lconst 0, 1) := by decide +kernel
theorem dX7_shapley_29 : decode cX7_shapley 29 = .ok (.lstore 4, 2) := by decide +kernel
theorem dX7_shapley_31 : decode cX7_shapley 31 = .ok (.iconst 0, 1) := by decide +kernel
theorem dX7_shapley_32 : decode cX7_shapley 32 = .ok (.istore 6, 2) := by decide +kernel
theorem dX7_shapley_34 : decode cX7_shapley 34 = .ok (.iload 6, 2) := by decide +kernel
theorem dX7_shapley_36 : decode cX7_shapley 36 = .ok (.iload_n 3, 1) := by decide +kernel
theorem dX7_shapley_37 : decode cX7_shapley 37 = .ok (.if_icmp .gt 85, 3) := by decide +kernel
theorem dX7_shapley_40 : decode cX7_shapley 40 = .ok (.iload 6, 2) := by decide +kernel
theorem dX7_shapley_42 : decode cX7_shapley 42 = .ok (.iconst 1, 1) := by decide +kernel
theorem dX7_shapley_43 : decode cX7_shapley 43 = .ok (.iload_n 2, 1) := by decide +kernel
theorem dX7_shapley_44 : decode cX7_shapley 44 = .ok (.ishl, 1) := by decide +kernel
theorem dX7_shapley_45 : decode cX7_shapley 45 = .ok (.iconst (-1), 1) := by decide +kernel
theorem dX7_shapley_46 : decode cX7_shapley 46 = .ok (.ixor, 1) := by decide +kernel
theorem dX7_shapley_47 : decode cX7_shapley 47 = .ok (.iand, 1) := by decide +kernel
theorem dX7_shapley_48 : decode cX7_shapley 48 = .ok (.invokestatic 294, 3) := by decide +kernel
theorem dX7_shapley_51 : decode cX7_shapley 51 = .ok (.istore 7, 2) := by decide +kernel
theorem dX7_shapley_53 : decode cX7_shapley 53 = .ok (.getstatic 299, 3) := by decide +kernel
theorem dX7_shapley_56 : decode cX7_shapley 56 = .ok (.iload 7, 2) := by decide +kernel
theorem dX7_shapley_58 : decode cX7_shapley 58 = .ok (.laload, 1) := by decide +kernel
theorem dX7_shapley_59 : decode cX7_shapley 59 = .ok (.getstatic 299, 3) := by decide +kernel
theorem dX7_shapley_62 : decode cX7_shapley 62 = .ok (.aload_n 0, 1) := by decide +kernel
theorem dX7_shapley_63 : decode cX7_shapley 63 = .ok (.getfield 20, 3) := by decide +kernel
theorem dX7_shapley_66 : decode cX7_shapley 66 = .ok (.getfield 53, 3) := by decide +kernel
theorem dX7_shapley_69 : decode cX7_shapley 69 = .ok (.iconst 1, 1) := by decide +kernel
theorem dX7_shapley_70 : decode cX7_shapley 70 = .ok (.isub, 1) := by decide +kernel
theorem dX7_shapley_71 : decode cX7_shapley 71 = .ok (.iload 7, 2) := by decide +kernel
theorem dX7_shapley_73 : decode cX7_shapley 73 = .ok (.isub, 1) := by decide +kernel
theorem dX7_shapley_74 : decode cX7_shapley 74 = .ok (.laload, 1) := by decide +kernel
theorem dX7_shapley_75 : decode cX7_shapley 75 = .ok (.lmul, 1) := by decide +kernel
theorem dX7_shapley_76 : decode cX7_shapley 76 = .ok (.lstore 8, 2) := by decide +kernel
theorem dX7_shapley_78 : decode cX7_shapley 78 = .ok (.aload_n 0, 1) := by decide +kernel
theorem dX7_shapley_79 : decode cX7_shapley 79 = .ok (.iload_n 1, 1) := by decide +kernel
theorem dX7_shapley_80 : decode cX7_shapley 80 = .ok (.iload 6, 2) := by decide +kernel
theorem dX7_shapley_82 : decode cX7_shapley 82 = .ok (.invokevirtual 283, 3) := by decide +kernel
theorem dX7_shapley_85 : decode cX7_shapley 85 = .ok (.i2l, 1) := by decide +kernel
theorem dX7_shapley_86 : decode cX7_shapley 86 = .ok (.lstore 10, 2) := by decide +kernel
theorem dX7_shapley_88 : decode cX7_shapley 88 = .ok (.lload 4, 2) := by decide +kernel
theorem dX7_shapley_90 : decode cX7_shapley 90 = .ok (.iload 6, 2) := by decide +kernel
theorem dX7_shapley_92 : decode cX7_shapley 92 = .ok (.iload_n 2, 1) := by decide +kernel
theorem dX7_shapley_93 : decode cX7_shapley 93 = .ok (.invokestatic 267, 3) := by decide +kernel
theorem dX7_shapley_96 : decode cX7_shapley 96 = .ok (.ifCond .eq 11, 3) := by decide +kernel
theorem dX7_shapley_99 : decode cX7_shapley 99 = .ok (.lload 8, 2) := by decide +kernel
theorem dX7_shapley_101 : decode cX7_shapley 101 = .ok (.lload 10, 2) := by decide +kernel
theorem dX7_shapley_103 : decode cX7_shapley 103 = .ok (.lmul, 1) := by decide +kernel
theorem dX7_shapley_104 : decode cX7_shapley 104 = .ok (.goto 9, 3) := by decide +kernel
theorem dX7_shapley_107 : decode cX7_shapley 107 = .ok (.lload 8, 2) := by decide +kernel
theorem dX7_shapley_109 : decode cX7_shapley 109 = .ok (.lneg, 1) := by decide +kernel
theorem dX7_shapley_110 : decode cX7_shapley 110 = .ok (.lload 10, 2) := by decide +kernel
theorem dX7_shapley_112 : decode cX7_shapley 112 = .ok (.lmul, 1) := by decide +kernel
theorem dX7_shapley_113 : decode cX7_shapley 113 = .ok (.ladd, 1) := by decide +kernel
theorem dX7_shapley_114 : decode cX7_shapley 114 = .ok (.lstore 4, 2) := by decide +kernel
theorem dX7_shapley_116 : decode cX7_shapley 116 = .ok (.iinc 6 1, 3) := by decide +kernel
theorem dX7_shapley_119 : decode cX7_shapley 119 = .ok (.goto (-85), 3) := by decide +kernel
theorem dX7_shapley_122 : decode cX7_shapley 122 = .ok (.lload 4, 2) := by decide +kernel
theorem dX7_shapley_124 : decode cX7_shapley 124 = .ok (.lreturn, 1) := by decide +kernel
theorem gX7_shapley_J6_bitCount_0f7a4 : GoodIn wtX7_shapley (va_wsS RX7 294 yJ6_bitCount_0f7a4 wtJ6_bitCount_0f7a4) := tb_good (tb_s0 wd_858 wd_540 wd_541 wd_542)
theorem gX7_shapley_X0_everyone : GoodIn wtX7_shapley (wsV RX7 280 RX0 yX0_everyone wtX0_everyone) := tb_good (tb_v0 wd_809 wd_293 wd_294 wd_39 wd_295)
theorem gX7_shapley_X7_has : GoodIn wtX7_shapley (va_wsS RX7 267 yX7_has wtX7_has) := tb_good (tb_s0 wd_814 wd_311 wd_2 wd_312)
theorem gX7_shapley_X7_isLoss : GoodIn wtX7_shapley (wsV RX7 137 RX7 yX7_isLoss wtX7_isLoss) := tb_good (tb_v0 wd_519 wd_520 wd_521 wd_2 wd_522)
theorem gX7_shapley_X7_isPolicy : GoodIn wtX7_shapley (wsV RX7 74 RX7 yX7_isPolicy wtX7_isPolicy) := tb_good (tb_v0 wd_186 wd_187 wd_188 wd_2 wd_189)
theorem gX7_shapley_X7_totalOfSet : GoodIn wtX7_shapley (wsV RX7 283 RX7 yX7_totalOfSet wtX7_totalOfSet) := tb_good (tb_v0 wd_823 wd_824 wd_825 wd_2 wd_826)
