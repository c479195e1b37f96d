section OURD
variable {p : Program} {l : Launch} {e : Env} {R : Room} {s : State} {m : MethodId} {args : Array Value} {below : List Frame} {meth : Method} {c : Code} {H : Heap} {locs : List Loc} {cells slots : Nat} {Q : State → Prop}
variable {pc : Nat} {ls : Array Slot} {rest st0 : List Value} {a : Array Value} {A : Nat → Prop} {H0 : Heap} {mc ms : Nat} {D : va_G} {cI cJ : ClassId} {w wc wr : va_W} {cc : ByteArray} {d0 : Drawn}
theorem k_ldcwF0 {T : State} (X : Stand p l e R s m args below meth c T locs cells slots) (hexec : p.tables.exec = Jvm.exec) {own : String} {index : Nat} {v : UInt32} (hown : s.vm.findClass own = some m.cls) (hconst : (Cond.constantFloat own index v).before args s = true) {g : JFrame} (hg : g.method = m) (hdg : decode c.code g.pc = .ok (.ldc_w index, 3)) :
    ∀ target, Steps p.tables e below (T.setTop { g with pc := g.pc + 3, stack := .float v :: g.stack }) target → Steps p.tables e below (T.setTop g) target := by
  obtain ⟨k, cf, hk, hcf, hcp⟩ := Cond.constantFloat_spec hown hconst
  obtain ⟨k', hk', he⟩ := X.warmed.alike.2.2 _ _ hk
  intro target hrest
  subst hg
  jvm_step X.here [hexec, hdg, Jvm.Op.ldc_w.wp_float (s := T) (f := g) X.here.top hk' (by rw [he]; exact hcf) hcp]
  exact hrest
theorem k_ldcwF (hexec : p.tables.exec = Jvm.exec) (hb : c.code = cc) {own : String} {index : Nat} {v : UInt32} (hown : s.vm.findClass own = some m.cls) (hconst : (Cond.constantFloat own index v).before args s = true) (hdg : decode cc pc = .ok (.ldc_w index, 3)) (k : W p l e R s m args below meth c H locs cells slots Q (F0 m (pc + 3) ls (.float v :: rest))) : W p l e R s m args below meth c H locs cells slots Q (F0 m pc ls rest) := by
  intro T hT X
  obtain ⟨t, a, b⟩ := k T hT X
  exact ⟨t, k_ldcwF0 X hexec hown hconst (g := F0 m pc ls rest) rfl (by rw [hb]; exact hdg) t a, b⟩
theorem k_iD (hd0 : s.drawn.sameBut d0 lw_cs) {post : Int32 → va_W → Prop} (hr : va_RunD lw_cs p l e R (s.setDrawn d0) m args below meth c H locs cells slots mc ms (F0 m pc ls st0) rest (cQi D post (va_A wc H.size) a) (va_A wc H.size)) (hP : va_P D vwCl w H) (hD : va_D A w) (hS : va_S A H0 H locs) (hA : ∀ q, H0.size ≤ q → A q) (isC isR : List Nat) (hC : isC.map (fun i => w[i]?) = wc.map some) (hR : isR.map (fun i => w[i]?) = wr.map some) (hn : va_nd isR = true) (hdis : ∀ i ∈ isR, i ∉ isC)
    (kk : ∀ (r : Int32) (u : va_W) (H1 : Heap) (locs1 : List Loc), post r u → va_P D vwCl (wr ++ u) H1 → va_D A (wr ++ u) → va_S A H0 H1 locs1 → ∀ d' : Drawn, s.drawn.sameBut d' lw_cs → W p l e R (s.setDrawn d') m args below meth c H1 locs1 (cells + mc) (slots + ms) Q (F0 m (pc + 3) ls (.int r :: rest))) : W p l e R (s.setDrawn d0) m args below meth c H locs cells slots Q (F0 m pc ls st0) := by
  have hF := va_free (wc := wc) hD hS hA isC hC
  refine va_calliD hd0 hr hS (fun q _ h => hF q h) hF (fun r u t H1 locs1 ht hvm hw hB hz1 hk1 hS1 d' hd' => ?_)
  obtain ⟨hP1, hD1⟩ := hB
  rw [ht] at hP1
  obtain ⟨hP2, hD2⟩ := va_join (wr := wr) (w1 := u) hP hD isC isR hC hR hn hdis hk1 hF hP1 hD1
  exact kk r u H1 locs1 hw hP2 hD2 hS1 d' hd'
theorem k_iretD {post : Int32 → va_W → Prop} {u : va_W} {v : Int32} (hd0 : s.drawn.sameBut d0 lw_cs) (hx : p.tables.exec = Jvm.exec) (hb : c.code = cc) (hr : meth.sig.returnType = some .int) (hlocks : meth.locks = false) (hP : va_P D vwCl u H) (hD : va_D A u) (hS : va_S A s.heap H locs) (hdg : decode cc pc = .ok (.ireturn, 1)) (hq : post v u) : W p l e R (s.setDrawn d0) m args below meth c H locs cells slots (MQD lw_cs below (cQi D post A) args s cells slots A) (F0 m pc ls [.int v]) :=
  W.endD hd0 (k_iret (s := s.setDrawn d0) hx hb hr hlocks hP hD hS hdg hq)
end OURD
theorem k_metF {l : Launch} {y : MethodName} {ws ws' : List Cond} {rm : Room} {Pc : Array Value → State → Prop} {Qc : Array Value → State → Outcome → State → Prop} {mc ms : Nat} {free : Addr → Prop} {cc : ByteArray} {maxL : Nat} {ret : Option FieldType}
    (hy : plainFor y = true) (hw : ws = Cond.code y cc maxL ret :: ws')
    (body : ∀ p e s m args below meth c s₁, BodyLoose p l y (headSpec ws rm) cc maxL ret e s m args below meth c s₁ → c.maxLocals = maxL → Pc args s → W p l e (headSpec ws rm).room s m args below meth c s.heap [] 0 0 (MQ below Qc args s mc ms free) (entryFrame m args maxL)) : Met l y ws rm Pc Qc mc ms free := by
  refine MetFree.of_bodySF (code := cc) (maxLocals := maxL) (ret := ret) hy ?_ ?_
  · intro args s m h hn
    obtain ⟨meth, c, h1, h2, h3, h4, h5, h6, -, -⟩ := Cond.code_spec hn (atoms_spec (ws := ws) h _ (by rw [hw]; exact List.mem_cons_self))
    exact ⟨meth, c, h1, h2, h3, h4, h5, h6⟩
  · intro p e s m args below meth c s₁ B hml hP _
    have hh0 : s₁.heap = s.heap := by rw [B.state]; rfl
    obtain ⟨t, a1, o, b1, b2, b3⟩ := body p e s m args below meth c s₁ B hml hP s₁ hh0 (Stand.of_body B)
    exact ⟨t, o, a1, b1, b2, ⟨b3.1, b3.2⟩⟩
theorem k_ofWF {l : Launch} {y : MethodName} {ws ws' : List Cond} {rm : Room} {cc : ByteArray} {maxL : Nat} {ret : Option FieldType} {D : va_G} {cI cJ : ClassId} {av : List Value} {sz : Nat} {WS : va_W} {Qc : (Nat → Prop) → Array Value → State → Outcome → State → Prop} {mc ms : Nat}
    (hy : plainFor y = true) (hw : ws = Cond.code y cc maxL ret :: ws') (hav : (lg_sl av).length ≤ maxL) (body : kBody l y ws rm cc maxL ret D cI cJ av sz WS Qc mc ms) : Met l y ws rm (cPc D cI cJ av sz WS) (Qc (va_A WS sz)) mc ms (va_A WS sz) := by
  refine k_metF (cc := cc) (maxL := maxL) (ret := ret) hy hw ?_
  intro p e s m args below meth c s₁ B hml hv
  obtain ⟨rfl, hsz, hP, hE, hD0⟩ := hv
  have hts := atoms_spec (ws := ws) B.pre
  have hD := hD0.self (sz := s.heap.size)
  subst hsz
  have hl := lv_entry av (n := maxL) hav
  rw [lg_entry_eq]
  exact body p e s m below meth c _ _ B.exec B.bytes B.returns hml hts (findClass_of_methodNamed B.named) B.notSynchronized (name_of_methodNamed B.named B.method).1 rfl hE hP hD va_S.rf (fun q h => Or.inr h) hl
theorem k_ofWD {l : Launch} {y : MethodName} {ws ws' : List Cond} {rm : Room} {cc : ByteArray} {maxL : Nat} {ret : Option FieldType} {D : va_G} {cI cJ : ClassId} {av : List Value} {sz : Nat} {WS : va_W} {Qc : (Nat → Prop) → Array Value → State → Outcome → State → Prop} {mc ms : Nat}
    (hy : plainName y.cls = true) (hw : ws = Cond.code y cc maxL ret :: ws') (hav : (lg_sl av).length ≤ maxL)
    (body : ∀ (p : Program) (e : Env) (s : State) (m : MethodId) (below : List Frame) (meth : Method) (c : Code) (A : Nat → Prop) (ls : Array Slot), p.tables.exec = Jvm.exec → c.code = cc → meth.sig.returnType = ret → c.maxLocals = maxL → (∀ w ∈ ws, w.before av.toArray s = true) → s.vm.findClass y.cls = some m.cls → meth.locks = false → meth.name = y.name → s.heap.size = sz → eK D cI cJ s → va_P D vwCl WS s.heap → va_D A WS → va_S A s.heap s.heap [] → (∀ q, s.heap.size ≤ q → A q) → lv_has ls maxL (lv_args 0 av) →
      W p l e rm (s.setDrawn s.drawn) m av.toArray below meth c s.heap [] 0 0 (MQD lw_cs below (Qc A) av.toArray s mc ms A) (F0 m 0 ls [])) : MetD lw_cs l y ws rm (cPc D cI cJ av sz WS) (Qc (va_A WS sz)) mc ms (va_A WS sz) := by
  refine MetD.ofW (cc := cc) (maxL := maxL) (ret := ret) hy hw ?_
  intro p e s m args below meth c s₁ B hml hv hd0
  obtain ⟨rfl, hsz, hP, hE, hD0⟩ := hv
  have hts := atoms_spec (ws := ws) B.pre
  have hD := hD0.self (sz := s.heap.size)
  subst hsz
  have hl := lv_entry av (n := maxL) hav
  rw [lg_entry_eq]
  exact body p e s m below meth c _ _ B.exec B.bytes B.returns hml hts (findClass_of_methodNamed B.named) B.notSynchronized (name_of_methodNamed B.named B.method).1 rfl hE hP hD va_S.rf (fun q h => Or.inr h) hl
theorem dX7_bitsOfFloat_0 : decode cX7_bitsOfFloat 0 = .ok (.fload_n 0, 1) := by decide +kernel
theorem dX7_bitsOfFloat_1 : decode cX7_bitsOfFloat 1 = .ok (.fconst 0, 1) := by decide +kernel
theorem dX7_bitsOfFloat_2 : decode cX7_bitsOfFloat 2 = .ok (.fcmp .l, 1) := by decide +kernel
theorem dX7_bitsOfFloat_3 : decode cX7_bitsOfFloat 3 = .ok (.ifCond .gt 5, 3) := by decide +kernel
theorem dX7_bitsOfFloat_6 : decode cX7_bitsOfFloat 6 = .ok (.iconst 0, 1) := by decide +kernel
theorem dX7_bitsOfFloat_7 : decode cX7_bitsOfFloat 7 = .ok (.ireturn, 1) := by decide +kernel
theorem dX7_bitsOfFloat_8 : decode cX7_bitsOfFloat 8 = .ok (.fload_n 0, 1) := by decide +kernel
theorem dX7_bitsOfFloat_9 : decode cX7_bitsOfFloat 9 = .ok (.fstore_n 1, 1) := by decide +kernel
theorem dX7_bitsOfFloat_10 : decode cX7_bitsOfFloat 10 = .ok (.bipush 127, 2) := by decide +kernel
theorem dX7_bitsOfFloat_12 : decode cX7_bitsOfFloat 12 = .ok (.istore_n 2, 1) := by decide +kernel
theorem dX7_bitsOfFloat_13 : decode cX7_bitsOfFloat 13 = .ok (.iconst 0, 1) := by decide +kernel
theorem dX7_bitsOfFloat_14 : decode cX7_bitsOfFloat 14 = .ok (.istore_n 3, 1) := by decide +kernel
theorem dX7_bitsOfFloat_15 : decode cX7_bitsOfFloat 15 = .ok (.iload_n 3, 1) := by decide +kernel
theorem dX7_bitsOfFloat_16 : decode cX7_bitsOfFloat 16 = .ok (.bipush 126, 2) := by decide +kernel
theorem dX7_bitsOfFloat_18 : decode cX7_bitsOfFloat 18 = .ok (.if_icmp .ge 22, 3) := by decide +kernel
theorem dX7_bitsOfFloat_21 : decode cX7_bitsOfFloat 21 = .ok (.fload_n 1, 1) := by decide +kernel
theorem dX7_bitsOfFloat_22 : decode cX7_bitsOfFloat 22 = .ok (.fconst 1, 1) := by decide +kernel
theorem dX7_bitsOfFloat_23 : decode cX7_bitsOfFloat 23 = .ok (.fcmp .g, 1) := by decide +kernel
theorem dX7_bitsOfFloat_24 : decode cX7_bitsOfFloat 24 = .ok (.ifCond .ge 16, 3) := by decide +kernel
theorem dX7_bitsOfFloat_27 : decode cX7_bitsOfFloat 27 = .ok (.fload_n 1, 1) := by decide +kernel
theorem dX7_bitsOfFloat_28 : decode cX7_bitsOfFloat 28 = .ok (.fconst 2, 1) := by decide +kernel
theorem dX7_bitsOfFloat_29 : decode cX7_bitsOfFloat 29 = .ok (.fmul, 1) := by decide +kernel
theorem dX7_bitsOfFloat_30 : decode cX7_bitsOfFloat 30 = .ok (.fstore_n 1, 1) := by decide +kernel
theorem dX7_bitsOfFloat_31 : decode cX7_bitsOfFloat 31 = .ok (.iinc 2 (-1), 3) := by decide +kernel
theorem dX7_bitsOfFloat_34 : decode cX7_bitsOfFloat 34 = .ok (.iinc 3 1, 3) := by decide +kernel
theorem dX7_bitsOfFloat_37 : decode cX7_bitsOfFloat 37 = .ok (.goto (-22), 3) := by decide +kernel
theorem dX7_bitsOfFloat_40 : decode cX7_bitsOfFloat 40 = .ok (.iload_n 2, 1) := by decide +kernel
theorem dX7_bitsOfFloat_41 : decode cX7_bitsOfFloat 41 = .ok (.bipush 23, 2) := by decide +kernel
theorem dX7_bitsOfFloat_43 : decode cX7_bitsOfFloat 43 = .ok (.ishl, 1) := by decide +kernel
theorem dX7_bitsOfFloat_44 : decode cX7_bitsOfFloat 44 = .ok (.fload_n 1, 1) := by decide +kernel
theorem dX7_bitsOfFloat_45 : decode cX7_bitsOfFloat 45 = .ok (.ldc_w 338, 3) := by decide +kernel
theorem dX7_bitsOfFloat_48 : decode cX7_bitsOfFloat 48 = .ok (.fmul, 1) := by decide +kernel
theorem dX7_bitsOfFloat_49 : decode cX7_bitsOfFloat 49 = .ok (.f2i, 1) := by decide +kernel
theorem dX7_bitsOfFloat_50 : decode cX7_bitsOfFloat 50 = .ok (.ldc_w 339, 3) := by decide +kernel
theorem dX7_bitsOfFloat_53 : decode cX7_bitsOfFloat 53 = .ok (.isub, 1) := by decide +kernel
theorem dX7_bitsOfFloat_54 : decode cX7_bitsOfFloat 54 = .ok (.ior, 1) := by decide +kernel
theorem dX7_bitsOfFloat_55 : decode cX7_bitsOfFloat 55 = .ok (.ireturn, 1) := by decide +kernel
set_option maxHeartbeats 4000000 in
set_option maxRecDepth 100000 in
theorem m_X7_bitsOfFloat (l : Launch) (D : va_G) (cI cJ : ClassId) (sz : Nat) (fx : UInt32) : MetD lw_cs l yX7_bitsOfFloat wtX7_bitsOfFloat { frames := 0, cells := 0, slots := 0, locals := 0 } (cPc D cI cJ [.float fx] sz []) (cQi D (fun r u => u = []) (va_A [] sz)) 0 0 (va_A [] sz) := by
  refine k_ofWD (Qc := cQi D (fun r u => u = [])) (by decide) rfl (Nat.le_of_ble_eq_true rfl) ?_
  intro p e s m below meth c A ls hx hb hr hml hts hown hlk hnm hsz hE hP hD hS hA hl
  have hown : s.vm.findClass RX7 = some m.cls := hown
  have htsB := hts
  have hts := dr_words htsB s.drawn
  have hE : eK D cI cJ (s.setDrawn s.drawn) := hE
  have hown : (s.setDrawn s.drawn).vm.findClass RX7 = some m.cls := hown
  have hl : lv_has ls 4 [(0, .float fx)] := hl
  refine lv_fload_n hx hb dX7_bitsOfFloat_0 rfl (lv_at hl 0 rfl) ?_
  refine lv_fconst0 hx hb dX7_bitsOfFloat_1 ?_
  refine lv_topf (fun y1 _ => ?_)
  refine lv_fcmp hx hb dX7_bitsOfFloat_2 ?_
  refine lv_topi (fun v2 ev2 => ?_)
  refine lv_if_gt (tgt := 8) hx hb dX7_bitsOfFloat_3 (by decide) (fun c3 => ?_) (fun c3 => ?_)
  · skip
    refine lv_fload_n hx hb dX7_bitsOfFloat_8 rfl (lv_at hl 0 rfl) ?_
    refine lv_fstore_n (lv' := [(1, .float fx), (0, .float fx)]) hx hb dX7_bitsOfFloat_9 rfl hl (by decide) rfl (fun ls hl => ?_)
    refine lv_bipush (v := 127) hx hb dX7_bitsOfFloat_10 (by decide) ?_
    refine lv_istore_n (lv' := [(2, .int 127), (1, .float fx), (0, .float fx)]) hx hb dX7_bitsOfFloat_12 rfl hl (by decide) rfl (fun ls hl => ?_)
    refine lv_iconst (v := 0) hx hb dX7_bitsOfFloat_13 (by decide) ?_
    refine lv_istore_n (lv' := [(3, .int 0), (2, .int 127), (1, .float fx), (0, .float fx)]) hx hb dX7_bitsOfFloat_14 rfl hl (by decide) rfl (fun ls hl => ?_)
    have J15 : ∀ (zz : Nat) (i15 : Nat) (h2_15 : Int32) (h1_15 : UInt32) (dd : Drawn), s.drawn.sameBut dd lw_cs → (i15 ≤ 126) → (126 - i15) < zz → ∀ (H : Heap) (locs : List Loc) (ls : Array Slot), va_P D vwCl [] H → va_D A [] → va_S A s.heap H locs → lv_has ls 4 [(3, .int (nI i15)), (2, .int h2_15), (1, .float h1_15), (0, .float fx)] → W p l e { frames := 0, cells := 0, slots := 0, locals := 0 } (s.setDrawn dd) m [.float fx].toArray below meth c H locs 0 0 (MQD lw_cs below (cQi D (fun r u => u = []) A) [.float fx].toArray s 0 0 A) (F0 m 15 ls []) := by
      intro zz
      induction zz with
      | zero => intro i15 h2_15 h1_15 dd _ _; exact fun h => absurd h (Nat.not_lt_zero _)
      | succ zz ih15 =>
        intro i15 h2_15 h1_15 dd15 hdd15 hc3_15 hmu15 H locs ls hP hD hS hl
        have hts := dr_words htsB dd15
        have hE : eK D cI cJ (s.setDrawn dd15) := hE
        have hown : (s.setDrawn dd15).vm.findClass RX7 = some m.cls := hown
        refine lv_iload_n hx hb dX7_bitsOfFloat_15 rfl (lv_at hl 0 rfl) ?_
        refine lv_bipush (v := 126) hx hb dX7_bitsOfFloat_16 (by decide) ?_
        refine lv_icmp_ge (tgt := 40) hx hb dX7_bitsOfFloat_18 (by decide) (fun c4 => ?_) (fun c4 => ?_)
        · skip
          have nc4 : 126 ≤ i15 := (nI_leI (a := 126) (b := i15) (by omega) (by omega)).mp c4
          refine lv_iload_n hx hb dX7_bitsOfFloat_40 rfl (lv_at hl 1 rfl) ?_
          refine lv_bipush (v := 23) hx hb dX7_bitsOfFloat_41 (by decide) ?_
          refine lv_ishl hx hb dX7_bitsOfFloat_43 ?_
          refine lv_topi (fun v5 ev5 => ?_)
          refine lv_fload_n hx hb dX7_bitsOfFloat_44 rfl (lv_at hl 2 rfl) ?_
          refine k_ldcwF (v := 1258291200) hx hb hown (hts _ (List.mem_cons_of_mem _ wd_605)) dX7_bitsOfFloat_45 ?_
          refine lv_fmul_any hdd15 lw_bits hx hb dX7_bitsOfFloat_48 (fun y6 dn7 _ hdn7 => ?_)
          have hts := dr_words htsB dn7
          have hE : eK D cI cJ (s.setDrawn dn7) := hE
          have hown : (s.setDrawn dn7).vm.findClass RX7 = some m.cls := hown
          refine lv_f2i hx hb dX7_bitsOfFloat_49 ?_
          refine lv_topi (fun v8 ev8 => ?_)
          refine lv_ldcw (v := 8388608) hx hb hown (hts _ (List.mem_cons_of_mem _ wd_606)) dX7_bitsOfFloat_50 ?_
          refine lv_isub hx hb dX7_bitsOfFloat_53 ?_
          refine lv_topi (fun v9 ev9 => ?_)
          refine lv_ior hx hb dX7_bitsOfFloat_54 ?_
          refine lv_topi (fun v10 ev10 => ?_)
          refine k_iretD (u := []) hdn7 hx hb hr hlk hP hD hS dX7_bitsOfFloat_55 ?_
          exact rfl
        · skip
          have nc4 : ¬ 126 ≤ i15 := fun q9 => c4 ((nI_leI (a := 126) (b := i15) (by omega) (by omega)).mpr q9)
          refine lv_fload_n hx hb dX7_bitsOfFloat_21 rfl (lv_at hl 2 rfl) ?_
          refine lv_fconst1 hx hb dX7_bitsOfFloat_22 ?_
          refine lv_topf (fun y11 _ => ?_)
          refine lv_fcmp hx hb dX7_bitsOfFloat_23 ?_
          refine lv_topi (fun v12 ev12 => ?_)
          refine lv_if_ge (tgt := 40) hx hb dX7_bitsOfFloat_24 (by decide) (fun c13 => ?_) (fun c13 => ?_)
          · skip
            refine lv_iload_n hx hb dX7_bitsOfFloat_40 rfl (lv_at hl 1 rfl) ?_
            refine lv_bipush (v := 23) hx hb dX7_bitsOfFloat_41 (by decide) ?_
            refine lv_ishl hx hb dX7_bitsOfFloat_43 ?_
            refine lv_topi (fun v14 ev14 => ?_)
            refine lv_fload_n hx hb dX7_bitsOfFloat_44 rfl (lv_at hl 2 rfl) ?_
            refine k_ldcwF (v := 1258291200) hx hb hown (hts _ (List.mem_cons_of_mem _ wd_605)) dX7_bitsOfFloat_45 ?_
            refine lv_fmul_any hdd15 lw_bits hx hb dX7_bitsOfFloat_48 (fun y15 dn16 _ hdn16 => ?_)
            have hts := dr_words htsB dn16
            have hE : eK D cI cJ (s.setDrawn dn16) := hE
            have hown : (s.setDrawn dn16).vm.findClass RX7 = some m.cls := hown
            refine lv_f2i hx hb dX7_bitsOfFloat_49 ?_
            refine lv_topi (fun v17 ev17 => ?_)
            refine lv_ldcw (v := 8388608) hx hb hown (hts _ (List.mem_cons_of_mem _ wd_606)) dX7_bitsOfFloat_50 ?_
            refine lv_isub hx hb dX7_bitsOfFloat_53 ?_
            refine lv_topi (fun v18 ev18 => ?_)
            refine lv_ior hx hb dX7_bitsOfFloat_54 ?_
            refine lv_topi (fun v19 ev19 => ?_)
            refine k_iretD (u := []) hdn16 hx hb hr hlk hP hD hS dX7_bitsOfFloat_55 ?_
            exact rfl
          · skip
            refine lv_fload_n hx hb dX7_bitsOfFloat_27 rfl (lv_at hl 2 rfl) ?_
            refine lv_fconst2 hx hb dX7_bitsOfFloat_28 ?_
            refine lv_topf (fun y20 _ => ?_)
            refine lv_fmul_any hdd15 lw_bits hx hb dX7_bitsOfFloat_29 (fun y21 dn22 _ hdn22 => ?_)
            have hts := dr_words htsB dn22
            have hE : eK D cI cJ (s.setDrawn dn22) := hE
            have hown : (s.setDrawn dn22).vm.findClass RX7 = some m.cls := hown
            refine lv_fstore_n (lv' := [(1, .float y21), (3, .int (nI i15)), (2, .int h2_15), (0, .float fx)]) hx hb dX7_bitsOfFloat_30 rfl hl (by decide) rfl (fun ls hl => ?_)
            obtain ⟨v23, ev23⟩ : ∃ y : Int32, y = h2_15 + (-1) := ⟨_, rfl⟩
            refine lv_iinc (v := v23) (lv' := [(2, .int v23), (1, .float y21), (3, .int (nI i15)), (0, .float fx)]) hx hb dX7_bitsOfFloat_31 hl (k := 2) rfl (by rw [ev23]; rfl) (by decide) rfl (fun ls hl => ?_)
            refine lv_iinc (v := (nI (i15 + 1))) (lv' := [(3, .int (nI (i15 + 1))), (2, .int v23), (1, .float y21), (0, .float fx)]) hx hb dX7_bitsOfFloat_34 hl (k := 2) rfl (nI_1 _) (by decide) rfl (fun ls hl => ?_)
            refine lv_goto (tgt := 15) hx hb dX7_bitsOfFloat_37 (by decide) ?_
            exact ih15 (i15 + 1) v23 y21 dn22 hdn22 (by omega) (by omega) _ _ _ hP hD hS (lv_sub hl [0, 1, 2, 3] rfl)
    exact J15 _ 0 127 fx s.drawn (Drawn.sameBut.refl s.drawn lw_cs) (by omega) (Nat.lt_succ_self _) _ _ _ hP hD hS (lv_sub hl [0, 1, 2, 3] rfl)
  · skip
    refine lv_iconst (v := 0) hx hb dX7_bitsOfFloat_6 (by decide) ?_
    refine k_iretD (u := []) (Drawn.sameBut.refl s.drawn lw_cs) hx hb hr hlk hP hD hS dX7_bitsOfFloat_7 ?_
    exact rfl
theorem dX7_bitsOfDouble_0 : decode cX7_bitsOfDouble 0 = .ok (.dload_n 0, 1) := by decide +kernel
theorem dX7_bitsOfDouble_1 : decode cX7_bitsOfDouble 1 = .ok (.dconst 0, 1) := by decide +kernel
theorem dX7_bitsOfDouble_2 : decode cX7_bitsOfDouble 2 = .ok (.dcmp .l, 1) := by decide +kernel
theorem dX7_bitsOfDouble_3 : decode cX7_bitsOfDouble 3 = .ok (.ifCond .gt 5, 3) := by decide +kernel
theorem dX7_bitsOfDouble_6 : decode cX7_bitsOfDouble 6 = .ok (.lconst 0, 1) := by decide +kernel
theorem dX7_bitsOfDouble_7 : decode cX7_bitsOfDouble 7 = .ok (.lreturn, 1) := by decide +kernel
theorem dX7_bitsOfDouble_8 : decode cX7_bitsOfDouble 8 = .ok (.dload_n 0, 1) := by decide +kernel
theorem dX7_bitsOfDouble_9 : decode cX7_bitsOfDouble 9 = .ok (.dstore_n 2, 1) := by decide +kernel
theorem dX7_bitsOfDouble_10 : decode cX7_bitsOfDouble 10 = .ok (.ldc2_w 340, 3) := by decide +kernel
theorem dX7_bitsOfDouble_13 : decode cX7_bitsOfDouble 13 = .ok (.lstore 4, 2) := by decide +kernel
theorem dX7_bitsOfDouble_15 : decode cX7_bitsOfDouble 15 = .ok (.iconst 0, 1) := by decide +kernel
theorem dX7_bitsOfDouble_16 : decode cX7_bitsOfDouble 16 = .ok (.istore 6, 2) := by decide +kernel
theorem dX7_bitsOfDouble_18 : decode cX7_bitsOfDouble 18 = .ok (.iload 6, 2) := by decide +kernel
theorem dX7_bitsOfDouble_20 : decode cX7_bitsOfDouble 20 = .ok (.sipush 1022, 3) := by decide +kernel
theorem dX7_bitsOfDouble_23 : decode cX7_bitsOfDouble 23 = .ok (.if_icmp .ge 27, 3) := by decide +kernel
theorem dX7_bitsOfDouble_26 : decode cX7_bitsOfDouble 26 = .ok (.dload_n 2, 1) := by decide +kernel
theorem dX7_bitsOfDouble_27 : decode cX7_bitsOfDouble 27 = .ok (.dconst 1, 1) := by decide +kernel
theorem dX7_bitsOfDouble_28 : decode cX7_bitsOfDouble 28 = .ok (.dcmp .g, 1) := by decide +kernel
theorem dX7_bitsOfDouble_29 : decode cX7_bitsOfDouble 29 = .ok (.ifCond .ge 21, 3) := by decide +kernel
theorem dX7_bitsOfDouble_32 : decode cX7_bitsOfDouble 32 = .ok (.dload_n 2, 1) := by decide +kernel
theorem dX7_bitsOfDouble_33 : decode cX7_bitsOfDouble 33 = .ok (.ldc2_w 342, 3) := by decide +kernel
theorem dX7_bitsOfDouble_36 : decode cX7_bitsOfDouble 36 = .ok (.dmul, 1) := by decide +kernel
theorem dX7_bitsOfDouble_37 : decode cX7_bitsOfDouble 37 = .ok (.dstore_n 2, 1) := by decide +kernel
theorem dX7_bitsOfDouble_38 : decode cX7_bitsOfDouble 38 = .ok (.lload 4, 2) := by decide +kernel
theorem dX7_bitsOfDouble_40 : decode cX7_bitsOfDouble 40 = .ok (.lconst 1, 1) := by decide +kernel
theorem dX7_bitsOfDouble_41 : decode cX7_bitsOfDouble 41 = .ok (.lsub, 1) := by decide +kernel
theorem dX7_bitsOfDouble_42 : decode cX7_bitsOfDouble 42 = .ok (.lstore 4, 2) := by decide +kernel
theorem dX7_bitsOfDouble_44 : decode cX7_bitsOfDouble 44 = .ok (.iinc 6 1, 3) := by decide +kernel
theorem dX7_bitsOfDouble_47 : decode cX7_bitsOfDouble 47 = .ok (.goto (-29), 3) := by decide +kernel
theorem dX7_bitsOfDouble_50 : decode cX7_bitsOfDouble 50 = .ok (.lload 4, 2) := by decide +kernel
theorem dX7_bitsOfDouble_52 : decode cX7_bitsOfDouble 52 = .ok (.bipush 52, 2) := by decide +kernel
theorem dX7_bitsOfDouble_54 : decode cX7_bitsOfDouble 54 = .ok (.lshl, 1) := by decide +kernel
theorem dX7_bitsOfDouble_55 : decode cX7_bitsOfDouble 55 = .ok (.dload_n 2, 1) := by decide +kernel
theorem dX7_bitsOfDouble_56 : decode cX7_bitsOfDouble 56 = .ok (.ldc2_w 344, 3) := by decide +kernel
theorem dX7_bitsOfDouble_59 : decode cX7_bitsOfDouble 59 = .ok (.dmul, 1) := by decide +kernel
theorem dX7_bitsOfDouble_60 : decode cX7_bitsOfDouble 60 = .ok (.d2l, 1) := by decide +kernel
theorem dX7_bitsOfDouble_61 : decode cX7_bitsOfDouble 61 = .ok (.ldc2_w 346, 3) := by decide +kernel
theorem dX7_bitsOfDouble_64 : decode cX7_bitsOfDouble 64 = .ok (.lsub, 1) := by decide +kernel
theorem dX7_bitsOfDouble_65 : decode cX7_bitsOfDouble 65 = .ok (.lor, 1) := by decide +kernel
theorem dX7_bitsOfDouble_66 : decode cX7_bitsOfDouble 66 = .ok (.lreturn, 1) := by decide +kernel
theorem dJxf58ca_isNaN_12338_0 : decode cJxf58ca_isNaN_12338 0 = .ok (.fload_n 0, 1) := by decide +kernel
theorem dJxf58ca_isNaN_12338_1 : decode cJxf58ca_isNaN_12338 1 = .ok (.fload_n 0, 1) := by decide +kernel
theorem dJxf58ca_isNaN_12338_2 : decode cJxf58ca_isNaN_12338 2 = .ok (.fcmp .l, 1) := by decide +kernel
theorem dJxf58ca_isNaN_12338_3 : decode cJxf58ca_isNaN_12338 3 = .ok (.ifCond .eq 7, 3) := by decide +kernel
theorem dJxf58ca_isNaN_12338_6 : decode cJxf58ca_isNaN_12338 6 = .ok (.iconst 1, 1) := by decide +kernel
theorem dJxf58ca_isNaN_12338_7 : decode cJxf58ca_isNaN_12338 7 = .ok (.goto 4, 3) := by decide +kernel
theorem dJxf58ca_isNaN_12338_10 : decode cJxf58ca_isNaN_12338 10 = .ok (.iconst 0, 1) := by decide +kernel
theorem dJxf58ca_isNaN_12338_11 : decode cJxf58ca_isNaN_12338 11 = .ok (.ireturn, 1) := by decide +kernel
set_option maxHeartbeats 4000000 in
set_option maxRecDepth 100000 in
theorem m_J_isNaNF (l : Launch) (D : va_G) (cI cJ : ClassId) (sz : Nat) (fx : UInt32) : Met l yJxf58ca_isNaN_12338 wtJxf58ca_isNaN_12338 { frames := 0, cells := 0, slots := 0, locals := 0 } (cPc D cI cJ [.float fx] sz []) (cQi D (fun r u => (r = 0 ∨ r = 1) ∧ u = []) (va_A [] sz)) 0 0 (va_A [] sz) := by
  refine k_ofWF (Qc := cQi D (fun r u => (r = 0 ∨ r = 1) ∧ u = [])) (by decide +kernel) rfl (Nat.le_of_ble_eq_true rfl) ?_
  intro p e s m below meth c A ls hx hb hr hml hts hown hlk hnm hsz hE hP hD hS hA hl
  have hown : s.vm.findClass RJxf58ca = some m.cls := hown
  have hl : lv_has ls 1 [(0, .float fx)] := hl
  refine lv_fload_n hx hb dJxf58ca_isNaN_12338_0 rfl (lv_at hl 0 rfl) ?_
  refine lv_fload_n hx hb dJxf58ca_isNaN_12338_1 rfl (lv_at hl 0 rfl) ?_
  refine lv_fcmp hx hb dJxf58ca_isNaN_12338_2 ?_
  refine lv_topi (fun v1 ev1 => ?_)
  refine lv_if_eq (tgt := 10) hx hb dJxf58ca_isNaN_12338_3 (by decide) (fun c2 => ?_) (fun c2 => ?_)
  · skip
    refine lv_iconst (v := 0) hx hb dJxf58ca_isNaN_12338_10 (by decide) ?_
    refine k_zret (u := []) hx hb hr (by decide) hlk hP hD hS dJxf58ca_isNaN_12338_11 ?_
    exact ⟨(by decide), rfl⟩
  · skip
    refine lv_iconst (v := 1) hx hb dJxf58ca_isNaN_12338_6 (by decide) ?_
    refine lv_goto (tgt := 11) hx hb dJxf58ca_isNaN_12338_7 (by decide) ?_
    refine k_zret (u := []) hx hb hr (by decide) hlk hP hD hS dJxf58ca_isNaN_12338_11 ?_
    exact ⟨(by decide), rfl⟩
theorem dJxf58ca_floatToIntBits_5c35a_0 : decode cJxf58ca_floatToIntBits_5c35a 0 = .ok (.fload_n 0, 1) := by decide +kernel
theorem dJxf58ca_floatToIntBits_5c35a_1 : decode cJxf58ca_floatToIntBits_5c35a 1 = .ok (.invokestatic 59, 3) := by decide +kernel
theorem dJxf58ca_floatToIntBits_5c35a_4 : decode cJxf58ca_floatToIntBits_5c35a 4 = .ok (.ifCond .ne 8, 3) := by decide +kernel
theorem dJxf58ca_floatToIntBits_5c35a_7 : decode cJxf58ca_floatToIntBits_5c35a 7 = .ok (.fload_n 0, 1) := by decide +kernel
theorem dJxf58ca_floatToIntBits_5c35a_8 : decode cJxf58ca_floatToIntBits_5c35a 8 = .ok (.invokestatic 74, 3) := by decide +kernel
theorem dJxf58ca_floatToIntBits_5c35a_11 : decode cJxf58ca_floatToIntBits_5c35a 11 = .ok (.ireturn, 1) := by decide +kernel
theorem dJxf58ca_floatToIntBits_5c35a_12 : decode cJxf58ca_floatToIntBits_5c35a 12 = .ok (.ldc 77, 2) := by decide +kernel
theorem dJxf58ca_floatToIntBits_5c35a_14 : decode cJxf58ca_floatToIntBits_5c35a 14 = .ok (.ireturn, 1) := by decide +kernel
theorem gJxf58ca_floatToIntBits_5c35a_Jxf58ca_isNaN_12338 : GoodIn wtJxf58ca_floatToIntBits_5c35a (va_wsS RJxf58ca 59 yJxf58ca_isNaN_12338 wtJxf58ca_isNaN_12338) := tb_good (tb_s0 wd_624 wd_625 wd_617 wd_626)
set_option maxHeartbeats 4000000 in
set_option maxRecDepth 100000 in
theorem m_J_fbits (l : Launch) (D : va_G) (cI cJ : ClassId) (sz : Nat) (fx : UInt32) : Met l yJxf58ca_floatToIntBits_5c35a wtJxf58ca_floatToIntBits_5c35a { frames := 1, cells := 0, slots := 0, locals := 20 } (cPc D cI cJ [.float fx] sz []) (cQi D (fun r u => u = []) (va_A [] sz)) 0 0 (va_A [] sz) := by
  refine k_ofWF (Qc := cQi D (fun r u => u = [])) (by decide +kernel) rfl (Nat.le_of_ble_eq_true rfl) ?_
  intro p e s m below meth c A ls hx hb hr hml hts hown hlk hnm hsz hE hP hD hS hA hl
  have hown : s.vm.findClass RJxf58ca = some m.cls := hown
  have hl : lv_has ls 1 [(0, .float fx)] := hl
  refine lv_fload_n hx hb dJxf58ca_floatToIntBits_5c35a_0 rfl (lv_at hl 0 rfl) ?_
  refine k_iS (va_runS (As := [.float fx]) (rest := []) ⟨hx, hb, hml, hown, hts⟩ (m_J_isNaNF l D cI cJ (s.heap).size fx) (va_cwS 1 hts gJxf58ca_floatToIntBits_5c35a_Jxf58ca_isNaN_12338 rfl rfl rfl (by decide +kernel) ⟨Nat.le_of_ble_eq_true rfl, Nat.le_of_ble_eq_true rfl⟩) (k_pre hE hP hD [] (by decide +kernel) rfl) rfl rfl hl.1 rfl (lv_room (Nat.le_of_ble_eq_true rfl)) dJxf58ca_floatToIntBits_5c35a_1 ⟨Nat.le_of_ble_eq_true rfl, Nat.le_of_ble_eq_true rfl⟩) hP hD hS hA [] rfl (fun _ _ ⟨_, h9⟩ => h9) (fun r1 H locs hw2 hP hD hS => ?_)
  obtain ⟨hz3, -⟩ := hw2
  refine lv_if_ne (tgt := 12) hx hb dJxf58ca_floatToIntBits_5c35a_4 (by decide) (fun c4 => ?_) (fun c4 => ?_)
  · skip
    refine lv_ldc (v := 2143289344) hx hb hown (hts _ (List.mem_cons_of_mem _ wd_623)) dJxf58ca_floatToIntBits_5c35a_12 ?_
    refine k_iret (u := []) hx hb hr hlk hP hD hS dJxf58ca_floatToIntBits_5c35a_14 ?_
    exact rfl
  · skip
    refine lv_fload_n hx hb dJxf58ca_floatToIntBits_5c35a_7 rfl (lv_at hl 0 rfl) ?_
    refine vn_f2i hx hb (by rw [hml]; exact hl.1.symm) hown (hts _ (List.mem_cons_of_mem _ wd_619)) (hts _ (List.mem_cons_of_mem _ wd_620)) (hts _ (List.mem_cons_of_mem _ wd_621)) (hts _ (List.mem_cons_of_mem _ wd_622)) (Nat.le_of_ble_eq_true rfl) (Nat.le_of_ble_eq_true rfl) dJxf58ca_floatToIntBits_5c35a_8 ?_
    refine lv_topi (fun v5 ev5 => ?_)
    refine k_iret (u := []) hx hb hr hlk hP hD hS dJxf58ca_floatToIntBits_5c35a_11 ?_
    exact rfl
theorem dJxe99ae_isNaN_b9ae7_0 : decode cJxe99ae_isNaN_b9ae7 0 = .ok (.dload_n 0, 1) := by decide +kernel
theorem dJxe99ae_isNaN_b9ae7_1 : decode cJxe99ae_isNaN_b9ae7 1 = .ok (.dload_n 0, 1) := by decide +kernel
theorem dJxe99ae_isNaN_b9ae7_2 : decode cJxe99ae_isNaN_b9ae7 2 = .ok (.dcmp .l, 1) := by decide +kernel
theorem dJxe99ae_isNaN_b9ae7_3 : decode cJxe99ae_isNaN_b9ae7 3 = .ok (.ifCond .eq 7, 3) := by decide +kernel
theorem dJxe99ae_isNaN_b9ae7_10 : decode cJxe99ae_isNaN_b9ae7 10 = .ok (.iconst 0, 1) := by decide +kernel
theorem dJxe99ae_isNaN_b9ae7_11 : decode cJxe99ae_isNaN_b9ae7 11 = .ok (.ireturn, 1) := by decide +kernel
theorem dJxe99ae_doubleToLongBits_ccdee_0 : decode cJxe99ae_doubleToLongBits_ccdee 0 = .ok (.dload_n 0, 1) := by decide +kernel
theorem dJxe99ae_doubleToLongBits_ccdee_1 : decode cJxe99ae_doubleToLongBits_ccdee 1 = .ok (.invokestatic 122, 3) := by decide +kernel
theorem dJxe99ae_doubleToLongBits_ccdee_4 : decode cJxe99ae_doubleToLongBits_ccdee 4 = .ok (.ifCond .ne 8, 3) := by decide +kernel
theorem dJxe99ae_doubleToLongBits_ccdee_7 : decode cJxe99ae_doubleToLongBits_ccdee 7 = .ok (.dload_n 0, 1) := by decide +kernel
theorem dJxe99ae_doubleToLongBits_ccdee_8 : decode cJxe99ae_doubleToLongBits_ccdee 8 = .ok (.invokestatic 134, 3) := by decide +kernel
theorem dJxe99ae_doubleToLongBits_ccdee_11 : decode cJxe99ae_doubleToLongBits_ccdee 11 = .ok (.lreturn, 1) := by decide +kernel
theorem gJxe99ae_doubleToLongBits_ccdee_Jxe99ae_isNaN_b9ae7 : GoodIn wtJxe99ae_doubleToLongBits_ccdee (va_wsS RJxe99ae 122 yJxe99ae_isNaN_b9ae7 wtJxe99ae_isNaN_b9ae7) := tb_good (tb_s0 wd_652 wd_653 wd_645 wd_654)
