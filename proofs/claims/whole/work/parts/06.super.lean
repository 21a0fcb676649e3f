/-! super.m(..) found in a class above the named one, and a method found by the receiver; returning or throwing -/
section Calls6
variable {p : Program} {l : Launch} {e : Env} {R : Room} {s : State} {m : MethodId} {args : Array Value} {below : List Frame} {meth : Method} {c : Code}
def sb_up (s : State) (a b : String) : Prop := ∀ ca cb : ClassId, s.vm.findClass a = some ca → s.vm.findClass b = some cb → s.vm.isSubclass ca cb = true
theorem sb_up_rf {s : State} {a : String} : sb_up s a a := by
  intro ca cb h1 h2
  cases h1.symm.trans h2
  simp [Vm.isSubclass, Vm.isSubclassAux]
theorem sb_up_of {s : State} {args : Array Value} {a b sa sb : String} (h1 : (Cond.superclass a sa).before args s = true) (h2 : (Cond.superclass b sb).before args s = true) (h : (Cond.castable a b).before args s = true) : sb_up s a b := by
  intro ca cb ha hb
  obtain ⟨p1, k1, kp1, -, hk1, -, -, ho1, -, -⟩ := Cond.superclass_spec ha h1
  obtain ⟨p2, k2, kp2, -, hk2, -, -, ho2, -, hn2⟩ := Cond.superclass_spec hb h2
  obtain ⟨c3, c4, hc3, hc4, hasg⟩ := Cond.castable_spec h
  cases ha.symm.trans hc3
  cases hb.symm.trans hc4
  exact isSubclass_of_assignable hk1 hk2 ho1 ho2 hn2 hasg
theorem bx_callSU {T : State} {locs : List Loc} {cells slots : Nat} (X : Stand p l e R s m args below meth c T locs cells slots) (hexec : p.tables.exec = Jvm.exec) {own owner : String} {index : Nat} {x y : MethodName} {bytes : ByteArray} {maxL : Nat} {ret : Option FieldType} (hy : y = ⟨owner, x.name, x.desc⟩)
    (hown : s.vm.findClass own = some m.cls) (hlink : (Cond.methodLink own index x).before args s = true) (hsame : (Cond.sameMethod x.cls owner x.name x.desc).before args s = true) (hsup : (Cond.superclass own x.cls).before args s = true)
    (hinst : (Cond.instanceMethod y).before args s = true) (hcode : (Cond.code y bytes maxL ret).before args s = true) (hno : x.name ≠ "<init>") (hup : sb_up s x.cls owner)
    {W9 : Nat} {Pre : Pt → Array Value → Prop} {Post : Pt → Array Value → Option Value → Pt → Prop} {PostX : Pt → Array Value → Addr → Pt → Prop} (hK : vx_Back l R p e below s args y 3 W9 Pre Post PostX)
    {b : Addr} {cellB : Cell} {kB : Class} (hcell : T.heap[b]? = some cellB) (hobj : cellB.vm.isStatics = false) (hkB : s.vm.classes[cellB.cls]? = some kB)
    {g : JFrame} (hg : g.method = m) (hsize : g.locals.size = c.maxLocals) {argsL rest : List Value} (hlen : ∀ sig, parseMethodDescriptor y.desc = some sig → argsL.length = sig.parameters.length)
    (hstack : g.stack = argsL.reverse ++ .ref b :: rest) (hW : 2 * g.monitorRoom + (rest.map fun v => v.category).sum ≤ W9) (hdg : decode c.code g.pc = .ok (.invokespecial index, 3))
    (hpre : ∀ vm₁, s.WarmedH vm₁ → Pre ⟨T.setVm vm₁, locs, cells, slots⟩ (Value.ref b :: argsL).toArray) :
    (∃ (v : Option Value) (vm₁ : Vm) (B : Pt), s.WarmedH vm₁ ∧ Stand p l e R s m args below meth c B.U B.locs B.cells B.slots ∧ Post ⟨T.setVm vm₁, locs, cells, slots⟩ (Value.ref b :: argsL).toArray v B ∧
      ∀ target, Steps p.tables e below (B.U.setTop { g with pc := g.pc + 3, stack := v.toList ++ rest }) target → Steps p.tables e below (T.setTop g) target) ∨
    (∃ (q : Addr) (vm₁ : Vm) (B : Pt), s.WarmedH vm₁ ∧ Stand p l e R s m args below meth c B.U B.locs B.cells B.slots ∧ PostX ⟨T.setVm vm₁, locs, cells, slots⟩ (Value.ref b :: argsL).toArray q B ∧
      Steps p.tables e below (T.setTop g) ((B.U.setTop { g with stack := rest }).pushFrame (.throwing q))) := by
  subst hy
  obtain ⟨mk, methM, hnamed, hmethM, hstM, habM⟩ := Cond.instanceMethod_spec hinst
  obtain ⟨methM', cM, hmethM', -, -, -, -, -, -, hsigM⟩ := Cond.code_spec hnamed hcode
  cases hmethM.symm.trans hmethM'
  obtain ⟨ps, dk, kp, hps, hdk, hkp, hsuper, -, -, hnid⟩ := Cond.superclass_spec hown hsup
  have hsub : s.vm.isSubclass ps mk.cls = true := hup ps mk.cls hps (findClass_of_methodNamed hnamed)
  obtain ⟨vm₁, X₁, hstep₁⟩ := X.invokespecialUp hexec hown hlink hsame hnamed hmethM hstM habM hno hdk hnid hps hsuper hsub (a := b) (cell := cellB) hcell
    (fun z h => by rw [h] at hobj; cases hobj) hkB (g := g) hg (argsL := argsL) (rest := rest) (hlen _ hsigM) hstack hdg
  rcases hK m meth c ⟨T.setVm vm₁, locs, cells, slots⟩ { g with stack := rest } (.invokespecial index) mk (Value.ref b :: argsL).toArray X₁ hg hsize hdg hW (X₁.named hnamed) (hpre vm₁ X₁.warmed) with ⟨v, B, X', hpost, hsteps⟩ | ⟨q, B, X', hpost, hsteps⟩
  · exact Or.inl ⟨v, vm₁, B, X₁.warmed, X', hpost, fun target h => hstep₁ _ (by rw [doInvoke_state]; exact hsteps.trans h)⟩
  · exact Or.inr ⟨q, vm₁, B, X₁.warmed, X', hpost, hstep₁ _ (by rw [doInvoke_state]; exact hsteps)⟩
theorem bx_callVU {T : State} {locs : List Loc} {cells slots : Nat} (X : Stand p l e R s m args below meth c T locs cells slots) (hexec : p.tables.exec = Jvm.exec) {own C owner : String} {index : Nat} {x y : MethodName} {bytes : ByteArray} {maxL : Nat} {ret : Option FieldType}
    (hown : s.vm.findClass own = some m.cls) (hlink : (Cond.methodLink own index x).before args s = true) (hsame : (Cond.sameMethod x.cls owner x.name x.desc).before args s = true)
    (hd0 : va_Decl s ⟨owner, x.name, x.desc⟩) (howner : owner ≠ "java/lang/invoke/MethodHandle" ∧ owner ≠ "java/lang/invoke/VarHandle")
    (hsel : (Cond.selects C x y).before args s = true) (hinst : (Cond.instanceMethod y).before args s = true) (hcode : (Cond.code y bytes maxL ret).before args s = true)
    {W9 : Nat} {Pre : Pt → Array Value → Prop} {Post : Pt → Array Value → Option Value → Pt → Prop} {PostX : Pt → Array Value → Addr → Pt → Prop} (hK : vx_Back l R p e below s args y 3 W9 Pre Post PostX)
    {b : Addr} {cellB : Cell} (hcell : T.heap[b]? = some cellB) (hobj : cellB.vm.isStatics = false) (hcls : s.vm.findClass C = some cellB.cls)
    {g : JFrame} (hg : g.method = m) (hsize : g.locals.size = c.maxLocals) {argsL rest : List Value} (hlen : ∀ sig, parseMethodDescriptor x.desc = some sig → argsL.length = sig.parameters.length)
    (hstack : g.stack = argsL.reverse ++ .ref b :: rest) (hW : 2 * g.monitorRoom + (rest.map fun v => v.category).sum ≤ W9) (hdg : decode c.code g.pc = .ok (.invokevirtual index, 3))
    (hpre : ∀ vm₁, s.WarmedH vm₁ → Pre ⟨T.setVm vm₁, locs, cells, slots⟩ (Value.ref b :: argsL).toArray) :
    (∃ (v : Option Value) (vm₁ : Vm) (B : Pt), s.WarmedH vm₁ ∧ Stand p l e R s m args below meth c B.U B.locs B.cells B.slots ∧ Post ⟨T.setVm vm₁, locs, cells, slots⟩ (Value.ref b :: argsL).toArray v B ∧
      ∀ target, Steps p.tables e below (B.U.setTop { g with pc := g.pc + 3, stack := v.toList ++ rest }) target → Steps p.tables e below (T.setTop g) target) ∨
    (∃ (q : Addr) (vm₁ : Vm) (B : Pt), s.WarmedH vm₁ ∧ Stand p l e R s m args below meth c B.U B.locs B.cells B.slots ∧ PostX ⟨T.setVm vm₁, locs, cells, slots⟩ (Value.ref b :: argsL).toArray q B ∧
      Steps p.tables e below (T.setTop g) ((B.U.setTop { g with stack := rest }).pushFrame (.throwing q))) := by
  obtain ⟨r0, r, hn, hrm, hstR, hsigR⟩ := hd0
  obtain ⟨cn, ck, r1, hcn, hck, hni, hf, hn1⟩ := Cond.sameMethod_found hsame
  cases hn.symm.trans hn1
  obtain ⟨mk, methM, hnamed, hmethM, -, habM⟩ := Cond.instanceMethod_spec hinst
  obtain ⟨c2, r2, m2, q1, q2, q3, q4, kP, hkP, hkPi⟩ := Cond.selects_spec hsel
  cases hcls.symm.trans q1
  cases hf.symm.trans q2
  cases hnamed.symm.trans q3
  have hselP : selectMethod e.platform s.vm cellB.cls r0 = .method mk := by rw [Launch.admits_selectMethod X.admits]; exact q4
  obtain ⟨vm₁, X₁, hstep₁⟩ := X.invokevirtualUp hexec hown hlink hsame howner hn hrm hstR (a := b) (cell := cellB) hcell
    (fun z h => by rw [h] at hobj; cases hobj) hselP hmethM habM hkP hkPi (g := g) hg (argsL := argsL) (rest := rest) (hlen _ hsigR) hstack hdg
  rcases hK m meth c ⟨T.setVm vm₁, locs, cells, slots⟩ { g with stack := rest } (.invokevirtual index) mk (Value.ref b :: argsL).toArray X₁ hg hsize hdg hW (X₁.named hnamed) (hpre vm₁ X₁.warmed) with ⟨v, B, X', hpost, hsteps⟩ | ⟨q, B, X', hpost, hsteps⟩
  · exact Or.inl ⟨v, vm₁, B, X₁.warmed, X', hpost, fun target h => hstep₁ _ fun acts => by rw [doInvoke_state]; exact hsteps.trans h⟩
  · exact Or.inr ⟨q, vm₁, B, X₁.warmed, X', hpost, hstep₁ _ fun acts => by rw [doInvoke_state]; exact hsteps⟩
variable {H : Heap} {locs : List Loc} {cells slots : Nat}
theorem bx_runSU {x y : MethodName} {bytes cc : ByteArray} {maxL nL mc ms n index : Nat} {ret : Option FieldType} {ws : List Cond} {rm : Room} {Pc : Array Value → State → Prop} {Qc : Array Value → State → Outcome → State → Prop} {XC : String → State → State → Prop} {free : Addr → Prop} {Ts : List Cond} {own owner C : String} {cC : ClassId} {b : Addr} {As rest : List Value} {g : JFrame}
    (hat : ClassAt s C cC) (S : CallFix p m c cc nL s args Ts own) (hM : vx_Met l y ws rm Pc Qc XC mc ms free) (hy : y = ⟨owner, x.name, x.desc⟩)
    (cw : (rm.cells = mc ∧ rm.slots = ms ∧ rm.frames + 1 ≤ R.frames ∧ 8 + (maxL + 11) + rm.locals ≤ R.locals ∧ (∀ w ∈ ws, ∀ (a' : Array Value) (U : State), s.WarmedH U.vm → w.before a' U = true) ∧ Cond.code y bytes maxL ret ∈ ws) ∧
      (Cond.methodLink own index x).before args s = true ∧ (Cond.sameMethod x.cls owner x.name x.desc).before args s = true ∧ (Cond.superclass own x.cls).before args s = true ∧ (Cond.instanceMethod y).before args s = true ∧ (Cond.initialized y.cls).before args s = true ∧ (Cond.code y bytes maxL ret).before args s = true ∧ x.name ≠ "<init>" ∧ (∀ sig, parseMethodDescriptor y.desc = some sig → n = sig.parameters.length) ∧ sb_up s x.cls owner) (hp : PreV s H C b Pc As)
    (hg : g.method = m) (hn : As.length = n) (hsize : g.locals.size = nL) (hstack : g.stack = As.reverse ++ .ref b :: rest) (hW : 2 * g.monitorRoom + (rest.map fun v => v.category).sum ≤ 8) (hdg : decode cc g.pc = .ok (.invokespecial index, 3)) (hf : cells + mc ≤ R.cells ∧ slots + ms ≤ R.slots) :
    vx_Run p l e R s m args below meth c H locs cells slots mc ms g rest (Qc (Value.ref b :: As).toArray) XC free := by
  obtain ⟨⟨hrc, hrs, hfr, hlo, hws, hcw⟩, hl1, hl2, hl3, hl4, hini, hcode, hno, hlen, hup⟩ := cw
  have hK : vx_Back l R p e below s args y 3 8 (PreOf R mc ms Pc) (PostOf Qc mc ms free) (vx_Post XC mc ms free) := vx_back (bytes := bytes) (maxL := maxL) (ret := ret) hM hp.1 hrc hrs hfr hlo hws hcw (fun a' U hW => word_at hW (Or.inl (by first | rfl | simp [Cond.onTables, Cond.keeps, Cond.steady])) hini)
  obtain ⟨hx, hb, hml, ho, -⟩ := S
  obtain ⟨-, ⟨cellB, hcB, hoB, hclB⟩, hPc⟩ := hp
  obtain ⟨hfc, kB, hkB, -⟩ := hat
  cases hfc.symm.trans hclB
  intro T hT X
  rcases bx_callSU X hx (bytes := bytes) (maxL := maxL) (ret := ret) hy ho hl1 hl2 hl3 hl4 hcode hno hup hK (by rw [hT]; exact hcB) hoB hkB hg (hsize.trans hml.symm) (argsL := As) (rest := rest) (fun sig h => hn.trans (hlen sig h)) hstack hW (by rw [hb]; exact hdg)
    (fun vm₁ hW₁ => ⟨hf.1, hf.2, hPc (T.setVm vm₁) hT hW₁⟩) with ⟨v, vm₁, ⟨U', l2, c2, s2⟩, hW₁, X', ⟨g', mk, t, L, e1, e2, hq, h1, hL, h2, h3⟩, st⟩ | ⟨q, vm₁, ⟨U', l2, c2, s2⟩, hW₁, X', ⟨g', mk, t, L, E, ce, e1, e2, hq, hce, hcv, hcl, h1, hL, h2, h3⟩, st⟩
  · dsimp only [Pt.U, Pt.locs, Pt.cells, Pt.slots] at X' e1 e2 h1 h2 h3 st
    subst h1; subst h2; subst h3
    exact Or.inl ⟨v, (T.setVm vm₁).calling g' mk (Value.ref b :: As).toArray, t, U', L, hT, X', hL, e1, e2, hq, st⟩
  · dsimp only [Pt.U, Pt.locs, Pt.cells, Pt.slots] at X' e1 e2 h1 h2 h3 st hcl
    subst h1; subst h2; subst h3
    exact Or.inr ⟨q, (T.setVm vm₁).calling g' mk (Value.ref b :: As).toArray, t, U', L, E, ce, hT, X', hL, e1, e2, hq, hce, hcv, vx_cls hW₁ hcl, st⟩
theorem bx_runU {x y : MethodName} {bytes cc : ByteArray} {maxL nL mc ms n index : Nat} {ret : Option FieldType} {ws : List Cond} {rm : Room} {Pc : Array Value → State → Prop} {Qc : Array Value → State → Outcome → State → Prop} {XC : String → State → State → Prop} {free : Addr → Prop} {Ts : List Cond} {own C owner : String} {b : Addr} {As rest : List Value} {g : JFrame}
    (S : CallFix p m c cc nL s args Ts own) (hM : vx_Met l y ws rm Pc Qc XC mc ms free) (cw : va_CU R s args own C owner index x y bytes maxL ret ws rm mc ms n) (hp : PreV s H C b Pc As)
    (hg : g.method = m) (hn : As.length = n) (hsize : g.locals.size = nL) (hstack : g.stack = As.reverse ++ .ref b :: rest) (hW : 2 * g.monitorRoom + (rest.map fun v => v.category).sum ≤ 8) (hdg : decode cc g.pc = .ok (.invokevirtual index, 3)) (hf : cells + mc ≤ R.cells ∧ slots + ms ≤ R.slots) :
    vx_Run p l e R s m args below meth c H locs cells slots mc ms g rest (Qc (Value.ref b :: As).toArray) XC free := by
  obtain ⟨hrc, hrs, hfr, hlo, hws, hcw⟩ := cw.back
  have hini := cw.init
  have hK : vx_Back l R p e below s args y 3 8 (PreOf R mc ms Pc) (PostOf Qc mc ms free) (vx_Post XC mc ms free) := vx_back (bytes := bytes) (maxL := maxL) (ret := ret) hM hp.1 hrc hrs hfr hlo hws hcw (fun a' U hW => word_at hW (Or.inl (by first | rfl | simp [Cond.onTables, Cond.keeps, Cond.steady])) hini)
  obtain ⟨hx, hb, hml, ho, -⟩ := S
  obtain ⟨-, ⟨cellB, hcB, hoB, hclB⟩, hPc⟩ := hp
  intro T hT X
  rcases bx_callVU X hx (C := C) (owner := owner) (bytes := bytes) (maxL := maxL) (ret := ret) ho cw.link cw.same cw.decl cw.notMH cw.sel cw.inst cw.code hK (by rw [hT]; exact hcB) hoB hclB hg (hsize.trans hml.symm) (argsL := As) (rest := rest) (fun sig h => hn.trans (cw.len sig h)) hstack hW (by rw [hb]; exact hdg)
    (fun vm₁ hW₁ => ⟨hf.1, hf.2, hPc (T.setVm vm₁) hT hW₁⟩) with ⟨v, vm₁, ⟨U', l2, c2, s2⟩, hW₁, X', ⟨g', mk, t, L, e1, e2, hq, h1, hL, h2, h3⟩, st⟩ | ⟨q, vm₁, ⟨U', l2, c2, s2⟩, hW₁, X', ⟨g', mk, t, L, E, ce, e1, e2, hq, hce, hcv, hcl, h1, hL, h2, h3⟩, st⟩
  · dsimp only [Pt.U, Pt.locs, Pt.cells, Pt.slots] at X' e1 e2 h1 h2 h3 st
    subst h1; subst h2; subst h3
    exact Or.inl ⟨v, (T.setVm vm₁).calling g' mk (Value.ref b :: As).toArray, t, U', L, hT, X', hL, e1, e2, hq, st⟩
  · dsimp only [Pt.U, Pt.locs, Pt.cells, Pt.slots] at X' e1 e2 h1 h2 h3 st hcl
    subst h1; subst h2; subst h3
    exact Or.inr ⟨q, (T.setVm vm₁).calling g' mk (Value.ref b :: As).toArray, t, U', L, E, ce, hT, X', hL, e1, e2, hq, hce, hcv, vx_cls hW₁ hcl, st⟩
/-- who doesn't throw, may throw -/
theorem MetToX {y : MethodName} {ws : List Cond} {rm : Room} {Pc : Array Value → State → Prop} {Qc : Array Value → State → Outcome → State → Prop} (XC : String → State → State → Prop) {mc ms : Nat} {free : Addr → Prop} (h : Met l y ws rm Pc Qc mc ms free) : vx_Met l y ws rm Pc Qc XC mc ms free := by
  intro p e ha hc hk s m args below hf happ hP hK
  obtain ⟨n, o, h1, h2, h3, h4⟩ := h p e ha hc hk s m args below hf happ hP hK
  exact ⟨n, o, h1, h2, h3, Or.inl h4⟩
theorem RunOfX {mc ms : Nat} {g : JFrame} {rest : List Value} {Qa : State → Outcome → State → Prop} {free : Addr → Prop} (h : vx_Run p l e R s m args below meth c H locs cells slots mc ms g rest Qa (fun _ _ _ => False) free) : va_Run p l e R s m args below meth c H locs cells slots mc ms g rest Qa free := by
  intro T hT X
  rcases h T hT X with h | ⟨q, st₀, t, T', L, E, ce, h0, X', hL, e1, e2, hx, -⟩
  · exact h
  · exact hx.elim
end Calls6
section Calls7
variable {p : Program} {l : Launch} {e : Env} {R : Room} {s : State} {m : MethodId} {args : Array Value} {below : List Frame} {meth : Method} {c : Code} {H : Heap} {locs : List Loc} {cells slots : Nat} {Q : State → Prop}
variable {A : Nat → Prop} {D : va_G} {cl : List vw_C} {tys : List (ClassId × FieldType)} {cc : ByteArray} {nL : Nat} {own : String} {ret : Option FieldType} {w0 : va_W}
variable {pc : Nat} {ls : Array Slot} {rest st0 : List Value}
variable {idx nLy n mc ms : Nat} {x y : MethodName} {b : ByteArray} {ry : FieldType} {rm : Room} {As : List Value} {a q0 ci : Nat} {C owner : String} {T : u_T} {N : Nat} {fs : List Value}
/-- the words of super.m(..) -/
def CwSU (s : State) (own owner : String) (idx : Nat) (x y : MethodName) (b : ByteArray) (nLy : Nat) (r : Option FieldType) : Prop :=
  y = ⟨owner, x.name, x.desc⟩ ∧ Cond.methodLink own idx x ∈ tg ∧ Cond.sameMethod x.cls owner x.name x.desc ∈ tg ∧ Cond.superclass own x.cls ∈ tg ∧ Cond.instanceMethod y ∈ tg ∧ Cond.initialized y.cls ∈ tg ∧ Cond.code y b nLy r ∈ tg ∧ x.name ≠ "<init>" ∧ sb_up s x.cls owner
theorem cwSU_of {ret' : Option FieldType} (cx : Fx p s m args meth c A D cl tys cc nL own ret) (h : CwSU s own owner idx x y b nLy ret') (hcr : CwR R rm nLy mc ms cells slots y n As st0 rest ls nL) : (rm.cells = mc ∧ rm.slots = ms ∧ rm.frames + 1 ≤ R.frames ∧ 8 + (nLy + 11) + rm.locals ≤ R.locals ∧ (∀ w ∈ (Cond.code y b nLy ret' :: tg), ∀ (a' : Array Value) (U : State), s.WarmedH U.vm → w.before a' U = true) ∧ Cond.code y b nLy ret' ∈ (Cond.code y b nLy ret' :: tg)) ∧
      (Cond.methodLink own idx x).before args s = true ∧ (Cond.sameMethod x.cls owner x.name x.desc).before args s = true ∧ (Cond.superclass own x.cls).before args s = true ∧ (Cond.instanceMethod y).before args s = true ∧ (Cond.initialized y.cls).before args s = true ∧ (Cond.code y b nLy ret').before args s = true ∧ x.name ≠ "<init>" ∧ (∀ sig, parseMethodDescriptor y.desc = some sig → n = sig.parameters.length) ∧ sb_up s x.cls owner := by
  obtain ⟨hd, hn, hls, hca, hR, hf, hrc, hrs⟩ := hcr
  obtain ⟨hy, h1, h2, h3, h4, h5, h6, h7, h8⟩ := h
  refine ⟨⟨hrc, hrs, hR.1, hR.2, pay_in cx.ts (gd_C h6), List.mem_cons_self⟩, cx.ts _ h1, cx.ts _ h2, cx.ts _ h3, cx.ts _ h4, cx.ts _ h5, cx.ts _ h6, h7, fun sig h => ?_, h8⟩
  have h2 := hd.2.2
  rw [h] at h2
  exact (Option.some.inj h2).symm
theorem Fx.cAt {ci : Nat} (cx : Fx p s m args meth c A D cl tys cc nL own ret) (hc : cl[ci]? = some (C, T, N)) : ClassAt s C (D.1 ci) := (cx.k.1 ci _ hc).2
theorem rSU_xi {S : Type} {w : S → va_W} {post : Int32 → S → Prop} {px : String → S → Prop} (cx : Fx p s m args meth c A D cl tys cc nL own ret) (hw : Wd D cl A s H locs w0) (hM : XI l y b nLy ry rm D cl tys (.ref a :: As) w w0 post px mc ms)
    (hg : CwSU s own owner idx x y b nLy (some ry)) (hcr : CwR R rm nLy mc ms cells slots y n As st0 rest ls nL) (hst : st0 = As.reverse ++ .ref a :: rest) (he : w0[q0]? = some (a, .inr (ci, fs))) (hc : cl[ci]? = some (C, T, N)) (hdg : decode cc pc = .ok (.invokespecial idx, 3)) :
    RunsXI p l e R s m args below meth c H locs cells slots pc ls st0 rest D cl w w0 post px mc ms :=
  ⟨_, bx_runSU (cx.cAt hc) cx.1 (hM H.size) hg.1 (cwSU_of cx hg hcr) ⟨bz_blind, hw.recv cx he hc, hw.pre cx⟩ rfl hcr.2.1 hcr.2.2.1 hst (lv_room hcr.2.2.2.1) hdg hcr.2.2.2.2.2.1⟩
theorem rSU_xv {S : Type} {w : S → va_W} {post : S → Prop} {px : String → S → Prop} (cx : Fx p s m args meth c A D cl tys cc nL own ret) (hw : Wd D cl A s H locs w0) (hM : XV l y b nLy rm D cl tys (.ref a :: As) w w0 post px mc ms)
    (hg : CwSU s own owner idx x y b nLy none) (hcr : CwR R rm nLy mc ms cells slots y n As st0 rest ls nL) (hst : st0 = As.reverse ++ .ref a :: rest) (he : w0[q0]? = some (a, .inr (ci, fs))) (hc : cl[ci]? = some (C, T, N)) (hdg : decode cc pc = .ok (.invokespecial idx, 3)) :
    RunsXV p l e R s m args below meth c H locs cells slots pc ls st0 rest D cl w w0 post px mc ms :=
  ⟨_, bx_runSU (cx.cAt hc) cx.1 (hM H.size) hg.1 (cwSU_of cx hg hcr) ⟨bz_blind, hw.recv cx he hc, hw.pre cx⟩ rfl hcr.2.1 hcr.2.2.1 hst (lv_room hcr.2.2.2.1) hdg hcr.2.2.2.2.2.1⟩
theorem rSU_i {S : Type} {w : S → va_W} {post : Int32 → S → Prop} (cx : Fx p s m args meth c A D cl tys cc nL own ret) (hw : Wd D cl A s H locs w0) (hM : MI l y b nLy ry rm D cl tys (.ref a :: As) w w0 post mc ms)
    (hg : CwSU s own owner idx x y b nLy (some ry)) (hcr : CwR R rm nLy mc ms cells slots y n As st0 rest ls nL) (hst : st0 = As.reverse ++ .ref a :: rest) (he : w0[q0]? = some (a, .inr (ci, fs))) (hc : cl[ci]? = some (C, T, N)) (hdg : decode cc pc = .ok (.invokespecial idx, 3)) :
    RunsI p l e R s m args below meth c H locs cells slots pc ls st0 rest D cl w w0 post mc ms :=
  ⟨_, RunOfX (bx_runSU (cx.cAt hc) cx.1 (MetToX _ (hM H.size)) hg.1 (cwSU_of cx hg hcr) ⟨bz_blind, hw.recv cx he hc, hw.pre cx⟩ rfl hcr.2.1 hcr.2.2.1 hst (lv_room hcr.2.2.2.1) hdg hcr.2.2.2.2.2.1)⟩
theorem rSU_v {S : Type} {w : S → va_W} {post : S → Prop} (cx : Fx p s m args meth c A D cl tys cc nL own ret) (hw : Wd D cl A s H locs w0) (hM : MV l y b nLy rm D cl tys (.ref a :: As) w w0 post mc ms)
    (hg : CwSU s own owner idx x y b nLy none) (hcr : CwR R rm nLy mc ms cells slots y n As st0 rest ls nL) (hst : st0 = As.reverse ++ .ref a :: rest) (he : w0[q0]? = some (a, .inr (ci, fs))) (hc : cl[ci]? = some (C, T, N)) (hdg : decode cc pc = .ok (.invokespecial idx, 3)) :
    RunsV p l e R s m args below meth c H locs cells slots pc ls st0 rest D cl w w0 post mc ms :=
  ⟨_, RunOfX (bx_runSU (cx.cAt hc) cx.1 (MetToX _ (hM H.size)) hg.1 (cwSU_of cx hg hcr) ⟨bz_blind, hw.recv cx he hc, hw.pre cx⟩ rfl hcr.2.1 hcr.2.2.1 hst (lv_room hcr.2.2.2.1) hdg hcr.2.2.2.2.2.1)⟩
/-- the words of a call by the receiver: the named x, its owner, the selected y -/
def CwU (own C owner : String) (idx : Nat) (x y : MethodName) (b : ByteArray) (nLy : Nat) (r : Option FieldType) : Prop :=
  Cond.methodLink own idx x ∈ tg ∧ Cond.sameMethod x.cls owner x.name x.desc ∈ tg ∧ Cond.instanceMethod ⟨owner, x.name, x.desc⟩ ∈ tg ∧ Cond.selects C x y ∈ tg ∧ Cond.instanceMethod y ∈ tg ∧ Cond.initialized y.cls ∈ tg ∧ Cond.code y b nLy r ∈ tg ∧ (∃ b0 m0 r0, Cond.code ⟨owner, x.name, x.desc⟩ b0 m0 r0 ∈ tg) ∧ (owner ≠ "java/lang/invoke/MethodHandle" ∧ owner ≠ "java/lang/invoke/VarHandle") ∧ x.desc = y.desc
theorem cwU_of {ret' : Option FieldType} (cx : Fx p s m args meth c A D cl tys cc nL own ret) (h : CwU own C owner idx x y b nLy ret') (hcr : CwR R rm nLy mc ms cells slots y n As st0 rest ls nL) : va_CU R s args own C owner idx x y b nLy ret' (Cond.code y b nLy ret' :: tg) rm mc ms n := by
  obtain ⟨hd, hn, hls, hca, hR, hf, hrc, hrs⟩ := hcr
  obtain ⟨h1, h2, h3, h4, h5, h6, h7, ⟨b0, m0, r0, h8⟩, h9, h10⟩ := h
  exact va_cwO n cx.ts (gd_O h1 h2 h3 h4 h5 h6 h7) rfl hrc hrs h8 ⟨h9.1, h9.2, by rw [h10]; exact hd.2.2⟩ hR
theorem rU_xi {S : Type} {w : S → va_W} {post : Int32 → S → Prop} {px : String → S → Prop} (cx : Fx p s m args meth c A D cl tys cc nL own ret) (hw : Wd D cl A s H locs w0) (hM : XI l y b nLy ry rm D cl tys (.ref a :: As) w w0 post px mc ms)
    (hg : CwU own C owner idx x y b nLy (some ry)) (hcr : CwR R rm nLy mc ms cells slots y n As st0 rest ls nL) (hst : st0 = As.reverse ++ .ref a :: rest) (he : w0[q0]? = some (a, .inr (ci, fs))) (hc : cl[ci]? = some (C, T, N)) (hdg : decode cc pc = .ok (.invokevirtual idx, 3)) :
    RunsXI p l e R s m args below meth c H locs cells slots pc ls st0 rest D cl w w0 post px mc ms :=
  ⟨_, bx_runU cx.1 (hM H.size) (cwU_of cx hg hcr) ⟨bz_blind, hw.recv cx he hc, hw.pre cx⟩ rfl hcr.2.1 hcr.2.2.1 hst (lv_room hcr.2.2.2.1) hdg hcr.2.2.2.2.2.1⟩
theorem rU_xv {S : Type} {w : S → va_W} {post : S → Prop} {px : String → S → Prop} (cx : Fx p s m args meth c A D cl tys cc nL own ret) (hw : Wd D cl A s H locs w0) (hM : XV l y b nLy rm D cl tys (.ref a :: As) w w0 post px mc ms)
    (hg : CwU own C owner idx x y b nLy none) (hcr : CwR R rm nLy mc ms cells slots y n As st0 rest ls nL) (hst : st0 = As.reverse ++ .ref a :: rest) (he : w0[q0]? = some (a, .inr (ci, fs))) (hc : cl[ci]? = some (C, T, N)) (hdg : decode cc pc = .ok (.invokevirtual idx, 3)) :
    RunsXV p l e R s m args below meth c H locs cells slots pc ls st0 rest D cl w w0 post px mc ms :=
  ⟨_, bx_runU cx.1 (hM H.size) (cwU_of cx hg hcr) ⟨bz_blind, hw.recv cx he hc, hw.pre cx⟩ rfl hcr.2.1 hcr.2.2.1 hst (lv_room hcr.2.2.2.1) hdg hcr.2.2.2.2.2.1⟩
theorem rU_i {S : Type} {w : S → va_W} {post : Int32 → S → Prop} (cx : Fx p s m args meth c A D cl tys cc nL own ret) (hw : Wd D cl A s H locs w0) (hM : MI l y b nLy ry rm D cl tys (.ref a :: As) w w0 post mc ms)
    (hg : CwU own C owner idx x y b nLy (some ry)) (hcr : CwR R rm nLy mc ms cells slots y n As st0 rest ls nL) (hst : st0 = As.reverse ++ .ref a :: rest) (he : w0[q0]? = some (a, .inr (ci, fs))) (hc : cl[ci]? = some (C, T, N)) (hdg : decode cc pc = .ok (.invokevirtual idx, 3)) :
    RunsI p l e R s m args below meth c H locs cells slots pc ls st0 rest D cl w w0 post mc ms :=
  ⟨_, va_runU cx.1 (hM H.size) (cwU_of cx hg hcr) ⟨bz_blind, hw.recv cx he hc, hw.pre cx⟩ rfl hcr.2.1 hcr.2.2.1 hst (lv_room hcr.2.2.2.1) hdg hcr.2.2.2.2.2.1⟩
theorem rU_v {S : Type} {w : S → va_W} {post : S → Prop} (cx : Fx p s m args meth c A D cl tys cc nL own ret) (hw : Wd D cl A s H locs w0) (hM : MV l y b nLy rm D cl tys (.ref a :: As) w w0 post mc ms)
    (hg : CwU own C owner idx x y b nLy none) (hcr : CwR R rm nLy mc ms cells slots y n As st0 rest ls nL) (hst : st0 = As.reverse ++ .ref a :: rest) (he : w0[q0]? = some (a, .inr (ci, fs))) (hc : cl[ci]? = some (C, T, N)) (hdg : decode cc pc = .ok (.invokevirtual idx, 3)) :
    RunsV p l e R s m args below meth c H locs cells slots pc ls st0 rest D cl w w0 post mc ms :=
  ⟨_, va_runU cx.1 (hM H.size) (cwU_of cx hg hcr) ⟨bz_blind, hw.recv cx he hc, hw.pre cx⟩ rfl hcr.2.1 hcr.2.2.1 hst (lv_room hcr.2.2.2.1) hdg hcr.2.2.2.2.2.1⟩
theorem MI.toX {S : Type} {w : S → va_W} {post : Int32 → S → Prop} {as : List Value} (px : String → S → Prop) (h : MI l y b nLy ry rm D cl tys as w w0 post mc ms) : XI l y b nLy ry rm D cl tys as w w0 post px mc ms := fun sz => MetToX _ (h sz)
theorem MV.toX {S : Type} {w : S → va_W} {post : S → Prop} {as : List Value} (px : String → S → Prop) (h : MV l y b nLy rm D cl tys as w w0 post mc ms) : XV l y b nLy rm D cl tys as w w0 post px mc ms := fun sz => MetToX _ (h sz)
end Calls7
