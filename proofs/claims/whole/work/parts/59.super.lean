/-! CALLS OF WHAT A CLASS ABOVE DECLARES: the link names a class C, the method is its superclass's -/
section SX0
variable {Q : Unit → Pre} {E : CtlPost} {e : Env} {d : Bool} {acts : List Action} {s s₀ : State} {f : JFrame}
theorem sx_cold {index ci n c : Nat} {m : MethodId} {dk ck : Class} {cf : ClassFile} {name desc : String} (hs : s.topJava?.isSome) (hp : e.platform.polymorphicOnlyByInvokevirtual = true) (hW : s₀.WarmedH s.vm) (hE : s₀.MethodEntryUp e s.vm f.method.cls index c m ci) (h1 : s₀.vm.classes[f.method.cls]? = some dk) (h2 : dk.cf = some cf) (h3 : cf.constantPool[index]? = some (if false then .interfaceMethodref ci n else .methodref ci n)) (h4 : cf.constantPool.nameAndType? n = some (name, desc)) (hck : s₀.vm.classes[c]? = some ck) (hno : (ck.methods.any fun y => y.name == name && !y.isStatic && signaturePolymorphic ck y) = false) :
    wp (invokestatic.sem index) Q E e d acts (s.setTop f) ↔ wp (invokestatic.sem index) Q E e d acts ((s.setVm (s.vm.calledUp f.method.cls ci index c m)).setTop f) := by
  obtain ⟨gC, -, wC, gM⟩ := hE.classFirst
  obtain ⟨ka, hka, ea⟩ := hW.alike.2.2 _ _ h1
  obtain ⟨kb, hkb, eb⟩ := hE.warmed.alike.2.2 _ _ h1
  obtain ⟨ca, hca, fa⟩ := wC.alike.2.2 _ _ hck
  obtain ⟨cb, hcb, fb⟩ := hE.warmed.alike.2.2 _ _ hck
  have tC : (s.setVm (s.vm.noted f.method.cls ci (.cls c))).topJava?.isSome := hs
  have tM : (s.setVm (s.vm.calledUp f.method.cls ci index c m)).topJava?.isSome := hs
  have na : (ca.methods.any fun y => y.name == name && !y.isStatic && signaturePolymorphic ca y) = false := by rw [fa]; exact hno
  have nb : (cb.methods.any fun y => y.name == name && !y.isStatic && signaturePolymorphic cb y) = false := by rw [fb]; exact hno
  have ra := memberRef_ask_via (e := e) hka (by rw [ea]; exact h2) h3 h4
  have rb := memberRef_ask_via (e := e) hkb (by rw [eb]; exact h2) h3 h4
  have lC : ∀ {Q' : ClassId → Pre} {d' : Bool} {acts' : List Action}, wp (Jvm.resolveClassAt ci) Q' E e d' acts' (s.setTop f) ↔ Q' c d' acts' ((s.setVm (s.vm.noted f.method.cls ci (.cls c))).setTop f) := W.resolveClassAt_links (t := s.setTop f) (State.method?_setTop f hs) gC
  have lM : ∀ {Q' : MethodId → Pre} {d' : Bool} {acts' : List Action}, wp (Jvm.resolveMethodAt index) Q' E e d' acts' ((s.setVm (s.vm.noted f.method.cls ci (.cls c))).setTop f) ↔ Q' m d' acts' ((s.setVm (s.vm.calledUp f.method.cls ci index c m)).setTop f) := W.resolveMethodAt_links (t := (s.setVm (s.vm.noted f.method.cls ci (.cls c))).setTop f) (State.method?_setTop f tC) gM
  simp [invokestatic.sem, hp, Seam.memberRefOf, State.method?_setTop f hs, State.method?_setTop f tM, ra, rb, lC, lM, hca, hcb, na, nb, W.resolveClassAt_ready (s := (s.setVm (s.vm.calledUp f.method.cls ci index c m)).setTop f) (State.method?_setTop f tM) hE.classReady, W.resolveMethodAt_ready (s := (s.setVm (s.vm.calledUp f.method.cls ci index c m)).setTop f) (State.method?_setTop f tM) hE.ready, -Array.any_eq_true]
end SX0
section SX1
variable {p : Program} {l : Launch} {e : Env} {R : Room} {s : State} {m : MethodId} {args : Array Value} {below : List Frame} {meth : Method} {c : Code} {H : Heap} {locs : List Loc} {cells slots : Nat}
theorem sx_run {y : MethodName} {bytes cc : ByteArray} {maxL nL mc ms index : Nat} {ret : Option FieldType} {ws : List Cond} {rm : Room} {Pc : Array Value → State → Prop} {Qc : Array Value → State → Outcome → State → Prop} {free : Addr → Prop} {Ts : List Cond} {own C : String} {As rest : List Value} {g : JFrame}
    (S : CallFix p m c cc nL s args Ts own) (hM : Met l y ws rm Pc Qc mc ms free) (hrc : rm.cells = mc) (hrs : rm.slots = ms) (hfr : rm.frames + 1 ≤ R.frames) (hlo : 8 + (maxL + 11) + rm.locals ≤ R.locals) (hws : ∀ w ∈ ws, ∀ (a' : Array Value) (U : State), s.WarmedH U.vm → w.before a' U = true) (hcw : Cond.code y bytes maxL ret ∈ ws)
    (w1 : (Cond.methodLink own index ⟨C, y.name, y.desc⟩).before args s = true) (w2 : (Cond.sameMethod C y.cls y.name y.desc).before args s = true) (w3 : (Cond.static y).before args s = true) (w4 : (Cond.initialized y.cls).before args s = true) (w5 : (Cond.code y bytes maxL ret).before args s = true) (hy : y.cls ≠ "java/lang/invoke/MethodHandle" ∧ y.cls ≠ "java/lang/invoke/VarHandle") (hlen : ∀ sig, parseMethodDescriptor y.desc = some sig → As.length = sig.parameters.length) (hp : PreS s H Pc As)
    (hg : g.method = m) (hsize : g.locals.size = nL) (hstack : g.stack = As.reverse ++ rest) (hW : 2 * g.monitorRoom + (rest.map fun v => v.category).sum ≤ 8) (hdg : decode cc g.pc = .ok (.invokestatic index, 3)) (hf : cells + mc ≤ R.cells ∧ slots + ms ≤ R.slots) :
    va_Run p l e R s m args below meth c H locs cells slots mc ms g rest (Qc As.toArray) free := by
  have hK : Back l R p e below s args y 3 8 (PreOf R mc ms Pc) (PostOf Qc mc ms free) := back_of (bytes := bytes) (maxL := maxL) (ret := ret) hM hp.1 hrc hrs hfr hlo hws hcw (fun a' U hW => word_at hW (Or.inl (by first | rfl | simp [Cond.onTables, Cond.keeps, Cond.steady])) w4)
  obtain ⟨hx, hb, hml, ho, -⟩ := S
  obtain ⟨cn, ck, mk, hcn, hck, hni, hfd, hnm⟩ := Cond.sameMethod_found w2
  have hnm : s.methodNamed? y = some mk := hnm
  obtain ⟨mM, cM, hmM, -, -, -, -, -, -, hsM⟩ := Cond.code_spec hnm w5
  have hst := Cond.static_spec hnm hmM w3
  obtain ⟨kM, hkM, hcnM⟩ := className_of_methodNamed hnm
  have hkI : kM.init = .initialized := Cond.initialized_spec (findClass_of_methodNamed hnm) hkM w4
  intro T hT X
  have pl : e.platform.magicAccessors = ({} : Platform).magicAccessors := by rw [X.admits.platform]
  have pv : e.platform.polymorphicOnlyByInvokevirtual = true := by rw [X.admits.platform]
  obtain ⟨ci, hl, hr⟩ := Cond.methodLink_specUp ho hcn hck hni hfd w1 e.platform pl (by rw [X.admits.platform])
  have hE : s.MethodEntryUp e T.vm m.cls index cn mk ci := State.methodEntryUp X.warmed hl hr
  obtain ⟨dk, cfl, nt, mnm, mds, ck2, _, _, hd, hcf, hcp, hnt, -, -, hck2, -, hnp, -⟩ := hl.here
  cases hck.symm.trans hck2
  have al := hE.warmed.alike
  obtain ⟨dk3, hdk3, ed3⟩ := al.2.2 _ _ hd
  obtain ⟨kM3, hkM3, eM3⟩ := al.2.2 _ _ hkM
  obtain ⟨ck3, hck3, ec3⟩ := al.2.2 _ _ hck
  have hno : (ck.methods.any fun z => z.name == mnm && !z.isStatic && signaturePolymorphic ck z) = false := by simp [hnp]
  have hno3 : (ck3.methods.any fun z => z.name == mnm && !z.isStatic && signaturePolymorphic ck3 z) = false := by rw [ec3]; exact hno
  have hcp2 : cfl.constantPool[index]? = some (if false then .interfaceMethodref ci nt else .methodref ci nt) := hcp
  have X1 := X.noted hE.warmed
  have stp : ∀ target, (∀ acts, Steps p.tables e below (doInvoke e ((T.setVm (T.vm.calledUp m.cls ci index cn mk)).setTop { g with stack := rest }) acts mk As.toArray).1 target) → Steps p.tables e below (T.setTop g) target := by
    intro target hrest
    subst hg
    rw [← hb] at hdg
    jvm_step X.here [hx, hdg, sx_cold (e := e) (s := T) (s₀ := s) (f := g) X.here.top pv X.warmed hE hd hcf hcp2 hnt hck hno,
      invokestatic.wp_ready (e := e) (s := T.setVm (T.vm.calledUp g.method.cls ci index cn mk)) (k := kM3) (meth := mM) (m := mk) (args := As) (rest := rest) (f := g) X.here.top ⟨ci, mnm, mds, false, cn, ck3, memberRef_ask_via (e := e) hdk3 (by rw [ed3]; exact hcf) hcp2 hnt, hE.classReady, hck3, hno3⟩ hE.ready hkM3 (by show (T.vm.calledUp g.method.cls ci index cn mk).method? mk = some mM; rw [al.method?]; exact hmM) (by rw [eM3]; show signaturePolymorphic kM mM = false; simp [signaturePolymorphic, hcnM, hy.1, hy.2]) hst (by rw [eM3]; exact hkI) (hlen _ hsM) hstack]
    exact fun acts => hrest _
  have hsz : g.locals.size = c.maxLocals := hsize.trans hml.symm
  have hdg2 : decode c.code g.pc = .ok (.invokestatic index, 3) := by rw [hb]; exact hdg
  obtain ⟨v, ⟨U2, l2, c2, s2⟩, X2, ⟨g2, mk2, t, L, e1, e2, hq, h1, hL, h2, h3⟩, st⟩ := hK m meth c ⟨T.setVm (T.vm.calledUp m.cls ci index cn mk), locs, cells, slots⟩ { g with stack := rest } (.invokestatic index) mk As.toArray X1 hg hsz hdg2 hW (X1.named hnm) ⟨hf.1, hf.2, hp.2 (T.setVm _) hT X1.warmed⟩
  dsimp only [Pt.U, Pt.locs, Pt.cells, Pt.slots] at X2 e1 e2 h1 h2 h3 st
  subst h1; subst h2; subst h3
  exact ⟨v, (T.setVm (T.vm.calledUp m.cls ci index cn mk)).calling g2 mk2 As.toArray, t, U2, L, hT, X2, hL, e1, e2, hq, fun target h => stp _ fun acts => by rw [doInvoke_state]; exact st.trans h⟩
theorem ux_run {y : MethodName} {bytes cc : ByteArray} {maxL nL mc ms index : Nat} {ret : Option FieldType} {ws : List Cond} {rm : Room} {Pc : Array Value → State → Prop} {Qc : Array Value → State → Outcome → State → Prop} {free : Addr → Prop} {Ts : List Cond} {own C D0 : String} {cD : ClassId} {b : Addr} {As rest : List Value} {g : JFrame}
    (hat : ClassAt s D0 cD) (S : CallFix p m c cc nL s args Ts own) (hM : Met l y ws rm Pc Qc mc ms free) (hrc : rm.cells = mc) (hrs : rm.slots = ms) (hfr : rm.frames + 1 ≤ R.frames) (hlo : 8 + (maxL + 11) + rm.locals ≤ R.locals) (hws : ∀ w ∈ ws, ∀ (a' : Array Value) (U : State), s.WarmedH U.vm → w.before a' U = true) (hcw : Cond.code y bytes maxL ret ∈ ws)
    (w1 : (Cond.methodLink own index ⟨C, y.name, y.desc⟩).before args s = true) (w2 : (Cond.sameMethod C y.cls y.name y.desc).before args s = true) (w3 : (Cond.superclass own C).before args s = true) (w4 : (Cond.superclass C y.cls).before args s = true) (w5 : (Cond.instanceMethod y).before args s = true) (w6 : (Cond.initialized y.cls).before args s = true) (w7 : (Cond.code y bytes maxL ret).before args s = true) (hno : y.name ≠ "<init>") (hlen : ∀ sig, parseMethodDescriptor y.desc = some sig → As.length = sig.parameters.length) (hp : PreV s H D0 b Pc As)
    (hg : g.method = m) (hsize : g.locals.size = nL) (hstack : g.stack = As.reverse ++ .ref b :: rest) (hW : 2 * g.monitorRoom + (rest.map fun v => v.category).sum ≤ 8) (hdg : decode cc g.pc = .ok (.invokespecial index, 3)) (hf : cells + mc ≤ R.cells ∧ slots + ms ≤ R.slots) :
    va_Run p l e R s m args below meth c H locs cells slots mc ms g rest (Qc (Value.ref b :: As).toArray) free := by
  have hK : Back l R p e below s args y 3 8 (PreOf R mc ms Pc) (PostOf Qc mc ms free) := back_of (bytes := bytes) (maxL := maxL) (ret := ret) hM hp.1 hrc hrs hfr hlo hws hcw (fun a' U hW => word_at hW (Or.inl (by first | rfl | simp [Cond.onTables, Cond.keeps, Cond.steady])) w6)
  obtain ⟨hx, hb, hml, ho, -⟩ := S
  obtain ⟨-, ⟨cellB, hcB, hoB, hclB⟩, hPc⟩ := hp
  obtain ⟨hfc, kB, hkB, -⟩ := hat
  cases hfc.symm.trans hclB
  obtain ⟨mk, mM, hnm, hmM, hstM, habM⟩ := Cond.instanceMethod_spec w5
  obtain ⟨mM2, cM, hmM2, -, -, -, -, -, -, hsM⟩ := Cond.code_spec hnm w7
  cases hmM.symm.trans hmM2
  obtain ⟨ps, dk, kp, hps, hdk, hkp, hsup, -, -, hnid⟩ := Cond.superclass_spec ho w3
  obtain ⟨ps2, dk2, kp2, hps2, hdk2, hkp2, hsup2, ho1, ho2, -⟩ := Cond.superclass_spec hps w4
  have hpm : ps2 = mk.cls := Option.some.inj (hps2.symm.trans (findClass_of_methodNamed hnm))
  have hsub : s.vm.isSubclass ps mk.cls = true := by
    rw [← hpm]
    simp only [Vm.isSubclass, Vm.isSubclassAux, hdk2, hsup2]
    simp
    right
    have hz := (Array.getElem?_eq_some_iff.mp hdk2).1
    cases hs : s.vm.classes.size with
    | zero => omega
    | succ k => simp [Vm.isSubclassAux]
  intro T hT X
  obtain ⟨vm1, X1, stp⟩ := X.invokespecialUp (owner := y.cls) hx ho w1 w2 hnm hmM hstM habM hno hdk hnid hps hsup hsub (a := b) (cell := cellB) (by rw [hT]; exact hcB) (fun z h => by rw [h] at hoB; cases hoB) hkB (g := g) hg (argsL := As) (rest := rest) (hlen _ hsM) hstack (by rw [hb]; exact hdg)
  have hsz : g.locals.size = c.maxLocals := hsize.trans hml.symm
  have hdg2 : decode c.code g.pc = .ok (.invokespecial index, 3) := by rw [hb]; exact hdg
  obtain ⟨v, ⟨U2, l2, c2, s2⟩, X2, ⟨g2, mk2, t, L, e1, e2, hq, h1, hL, h2, h3⟩, st⟩ := hK m meth c ⟨T.setVm vm1, locs, cells, slots⟩ { g with stack := rest } (.invokespecial index) mk (Value.ref b :: As).toArray X1 hg hsz hdg2 hW (X1.named hnm) ⟨hf.1, hf.2, hPc (T.setVm vm1) hT X1.warmed⟩
  dsimp only [Pt.U, Pt.locs, Pt.cells, Pt.slots] at X2 e1 e2 h1 h2 h3 st
  subst h1; subst h2; subst h3
  exact ⟨v, (T.setVm vm1).calling g2 mk2 (Value.ref b :: As).toArray, t, U2, L, hT, X2, hL, e1, e2, hq, fun target h => stp _ (by rw [doInvoke_state]; exact st.trans h)⟩
end SX1
section SX2
variable {G : px_G} {D C S D' C1 C2 S1 S2 : Nat} {M M' : px_M} {pc idx : Nat} {ls : px_L} {st stk : List Value} {as : List Value} {h : px_H} {Q : Option Value → px_H → Prop}
theorem wp_callSX {C0 : String} (d : decode M.2.1 pc = .ok (.invokestatic idx, 3)) (w1 : Cond.methodLink M.1.cls idx ⟨C0, M'.1.name, M'.1.desc⟩ ∈ px_tb) (w0 : Cond.sameMethod C0 M'.1.cls M'.1.name M'.1.desc ∈ px_tb) (w2 : Cond.static M'.1 ∈ px_tb) (hok : px_ok M' as.length) (hln : (px_sl as).length ≤ M'.2.2.1) (hstk : stk = as.reverse ++ st) (hst : (st.map fun v => v.category).sum ≤ 8) (hD : D' + 1 ≤ D) (hC : C = C1 + C2) (hS0 : S = S1 + S2) (hw : px_W G D' C1 S1 M' 0 (px_ent M'.2.2.1 as) [] h (fun rv h1 => px_W G D C2 S2 M (pc + 3) ls (px_ret rv st) h1 Q)) : px_W G D C S M pc ls stk h Q := by
  intro p l e R s m args below meth c H locs cells slots lsr Qm cx hS hR hl hd hlo hc hk
  subst hstk
  subst hC
  subst hS0
  have hts := cx.2.2.2.2.2.2.1
  have hst' : ((st.map (px_v G)).map fun v => v.category).sum ≤ 8 := by rw [px_sum]; exact hst
  have hm61 := hok.2.2.2.2.2
  refine px_call (sx_run (As := as.map (px_v G)) (rest := st.map (px_v G)) ⟨cx.1, cx.2.1, cx.2.2.1, cx.2.2.2.2.2.1, hts⟩ (px_met (as := as) l hok.1 hln hw) rfl rfl (by show D' + 1 ≤ R.frames; omega) (by show 8 + (M'.2.2.1 + 11) + 80 * D' ≤ R.locals; omega) (px_pay hok hts) List.mem_cons_self (hts _ w1) (hts _ w0) (hts _ w2) (hts _ hok.2.2.1) (hts _ hok.2.1) hok.2.2.2.1 (fun sig hsg => (by simp : (as.map (px_v G)).length = as.length).trans (px_num hok sig hsg)) ⟨px_blind, fun U hU hW => px_pre (as := as) cx hS hR hU hW⟩ rfl hl.1 (by simp [px_v]) (lv_room hst') d ⟨by omega, by omega⟩) hS fun rv h1 H1 locs1 q1 hR1 hS1 => ?_
  have k1 := q1 p l e R s m args below meth c H1 locs1 (cells + C1) (slots + S1) lsr Qm cx hS1 hR1 hl hd (by omega) (by omega) (fun pc' lsr' H' locs' rv h' a1 a2 a3 a4 => by
    rw [show cells + C1 + C2 = cells + (C1 + C2) by omega, show slots + S1 + S2 = slots + (S1 + S2) by omega]
    exact hk pc' lsr' H' locs' rv h' a1 a2 a3 a4)
  cases rv <;> exact k1
theorem wp_callUX {ci y : Nat} {fs : List Value} {r : vw_C} {C0 : String} (d : decode M.2.1 pc = .ok (.invokespecial idx, 3)) (hci : px_cls[ci]? = some r) (w1 : Cond.methodLink M.1.cls idx ⟨C0, M'.1.name, M'.1.desc⟩ ∈ px_tb) (w2 : Cond.sameMethod C0 M'.1.cls M'.1.name M'.1.desc ∈ px_tb) (w3 : Cond.superclass M.1.cls C0 ∈ px_tb) (w3' : Cond.superclass C0 M'.1.cls ∈ px_tb) (w4 : Cond.instanceMethod M'.1 ∈ px_tb) (hno : M'.1.name ≠ "<init>") (he : h[y]? = some (.inr (ci, fs))) (hok : px_ok M' as.length) (hln : (px_sl (.ref y :: as)).length ≤ M'.2.2.1) (hstk : stk = as.reverse ++ .ref y :: st) (hst : (st.map fun v => v.category).sum ≤ 8) (hD : D' + 1 ≤ D) (hC : C = C1 + C2) (hS0 : S = S1 + S2) (hw : px_W G D' C1 S1 M' 0 (px_ent M'.2.2.1 (.ref y :: as)) [] h (fun rv h1 => px_W G D C2 S2 M (pc + 3) ls (px_ret rv st) h1 Q)) : px_W G D C S M pc ls stk h Q := by
  intro p l e R s m args below meth c H locs cells slots lsr Qm cx hS hR hl hd hlo hc hk
  subst hstk
  subst hC
  subst hS0
  have hts := cx.2.2.2.2.2.2.1
  have hst' : ((st.map (px_v G)).map fun v => v.category).sum ≤ 8 := by rw [px_sum]; exact hst
  have hm61 := hok.2.2.2.2.2
  refine px_call (ux_run (As := as.map (px_v G)) (rest := st.map (px_v G)) (cx.2.2.2.2.2.2.2.2.1.1 ci r hci).2 ⟨cx.1, cx.2.1, cx.2.2.1, cx.2.2.2.2.2.1, hts⟩ (px_met (as := .ref y :: as) l hok.1 hln hw) rfl rfl (by show D' + 1 ≤ R.frames; omega) (by show 8 + (M'.2.2.1 + 11) + 80 * D' ≤ R.locals; omega) (px_pay hok hts) List.mem_cons_self (hts _ w1) (hts _ w2) (hts _ w3) (hts _ w3') (hts _ w4) (hts _ hok.2.2.1) (hts _ hok.2.1) hno (fun sig hsg => (by simp : (as.map (px_v G)).length = as.length).trans (px_num hok sig hsg)) ⟨px_blind, px_recv cx.2.2.2.2.2.2.2.2.1 hR he hci, fun U hU hW => px_pre (as := .ref y :: as) cx hS hR hU hW⟩ rfl hl.1 (by simp [px_v]) (lv_room hst') d ⟨by omega, by omega⟩) hS fun rv h1 H1 locs1 q1 hR1 hS1 => ?_
  have k1 := q1 p l e R s m args below meth c H1 locs1 (cells + C1) (slots + S1) lsr Qm cx hS1 hR1 hl hd (by omega) (by omega) (fun pc' lsr' H' locs' rv h' a1 a2 a3 a4 => by
    rw [show cells + C1 + C2 = cells + (C1 + C2) by omega, show slots + S1 + S2 = slots + (S1 + S2) by omega]
    exact hk pc' lsr' H' locs' rv h' a1 a2 a3 a4)
  cases rv <;> exact k1
end SX2
