section VXC
variable {p : Program} {l : Launch} {e : Env} {R : Room} {s : State} {m : MethodId} {args : Array Value} {below : List Frame} {meth : Method} {c : Code} {H : Heap} {locs : List Loc} {cells slots : Nat} {Q : State → Prop}
variable {mc ms : Nat} {free : Addr → Prop} {A0 A1 : Nat → Prop} {H0 : Heap} {a : Array Value} {pc : Nat} {ls : Array Slot} {st0 rest : List Value}
/-- caught by the row x of this method's table; the rows ahead don't take it -/
theorem vx_catch {own name : String} {E : String} {ce : Cell} {q : Addr} (hown : s.vm.findClass own = some m.cls) (pre : List ExceptionTableEntry) (x : ExceptionTableEntry) (suf : List ExceptionTableEntry) (hsplit : c.exceptionTable.toList = pre ++ x :: suf)
    (hpass : ∀ z ∈ pre, covers z pc = false ∨ (z.catchType ≠ 0 ∧ ∃ nm : String, (Cond.classLink own z.catchType nm).before args s = true ∧ va_Nc E nm s)) (hx : covers x pc = true) (h0 : x.catchType ≠ 0)
    (hlink : (Cond.classLink own x.catchType name).before args s = true) (hcast : (Cond.castable E name).before args s = true) (hcell : H[q]? = some ce) (hv : ce.vm = .none) (hcl : s.vm.findClass E = some ce.cls)
    (kk : W p l e R s m args below meth c H locs cells slots Q (F0 m x.handlerPc ls [.ref q])) : vx_W p l e R s m args below meth c H locs cells slots Q (F0 m pc ls rest) q := by
  intro T hT X
  have hpl : e.platform.magicAccessors = ({} : Platform).magicAccessors := by rw [X.admits.platform]
  obtain ⟨c3, c4, hc3, hc4, hasg⟩ := Cond.castable_spec hcast
  cases Option.some.inj (hc3.symm.trans hcl)
  obtain ⟨c5, hc5, hcl5⟩ := Cond.classLink_spec hown hlink e.platform hpl
  cases Option.some.inj (hc4.symm.trans hc5)
  obtain ⟨vm', X', st⟩ := Jvm.Stand.thenCaughtThrough X q (g := F0 m pc ls rest) rfl (Steps.refl _) (by rw [hT]; exact hcell) (by rw [hv]; rfl) (by obtain ⟨k9, h9, -⟩ := Vm.findClass_spec hcl; exact ⟨k9, h9⟩) pre x suf hsplit
    (fun z hz => by
      rcases hpass z hz with h | ⟨hz0, nm, hl1, hn1⟩
      · exact Or.inl h
      · obtain ⟨c6, hc6, hcl6⟩ := Cond.classLink_spec hown hl1 e.platform hpl
        obtain ⟨a8, b8, h1, h2, h3⟩ := hn1
        cases Option.some.inj (h1.symm.trans hcl)
        cases Option.some.inj (h2.symm.trans hc6)
        exact Or.inr ⟨hz0, _, hcl6, h3⟩) hx (Or.inr ⟨h0, c4, hcl5, hasg⟩)
  obtain ⟨t, a1, b1⟩ := kk (T.setVm vm') hT X'
  exact ⟨t, st.trans a1, b1⟩
end VXC
section Tab27
variable {p : Program} {l : Launch} {e : Env} {R : Room} {s : State} {m : MethodId} {args : Array Value} {below : List Frame} {meth : Method} {c : Code} {H : Heap} {locs : List Loc} {cells slots : Nat} {Q : State → Prop}
variable {A : Nat → Prop} {D : va_G} {cl : List vw_C} {tys : List (ClassId × FieldType)} {cc : ByteArray} {nL : Nat} {own : String} {ret : Option FieldType} {w0 : va_W}
variable {pc : Nat} {ls : Array Slot} {rest st0 : List Value} {S : Type} {w : S → va_W} {mc ms : Nat} {y : MethodName} {rm : Room} {as As : List Value} {idx nLy n : Nat}
/-- a method with a table of its own that returns an int -/
def MW {S : Type} (l : Launch) (y : MethodName) (b : ByteArray) (nL : Nat) (ret : FieldType) (hh : List (Nat × Nat × Nat × Nat)) (rm : Room) (D : va_G) (cl : List vw_C) (tys : List (ClassId × FieldType)) (as : List Value) (w : S → va_W) (w0 : va_W) (post : Int32 → S → Prop) (mc ms : Nat) : Prop :=
  ∀ sz, Met l y (.codeWith y b nL (some ret) hh :: tg) rm (va_Pc as (bz_pre D cl tys w0 sz)) (va_Qi post (bz_B D cl w w0 sz) (va_A w0 sz)) mc ms (va_A w0 sz)
theorem MW_of {b : ByteArray} {ry : FieldType} {hh : List (Nat × Nat × Nat × Nat)} {post : Int32 → S → Prop} {nL : Nat} (hy : plainName y.cls = true) (hn : (lg_sl as).length ≤ nL)
    (body : ∀ (p : Program) (e : Env) (s : State) (m : MethodId) (args : Array Value) (below : List Frame) (meth : Method) (c : Code) (A : Nat → Prop) (ls : Array Slot), c.exceptionTable.toList = tableOf hh → Fx p s m args meth c A D cl tys b nL y.cls (some ry) → Wd D cl A s s.heap [] w0 → lv_has ls nL (lv_args 0 as) → W p l e rm s m args below meth c s.heap [] 0 0 (QI D cl w A post below args s mc ms) (F0 m 0 ls [])) : MW l y b nL ry hh rm D cl tys as w w0 post mc ms := by
  intro sz
  refine va_MetW (cc := b) (maxL := nL) (ret := some ry) (hh := hh) hy rfl ?_
  intro p e s m args below meth c s₁ B hml hv
  obtain ⟨ha, hsz, hP, hK, hD, hE⟩ := hv
  subst ha
  rw [lg_entry_eq]
  have ht : c.exceptionTable.toList = tableOf hh := vx_table (x := y) B (atoms_spec (ws := .codeWith y b nL (some ry) hh :: tg) B.pre _ List.mem_cons_self)
  exact body p e s m _ below meth c (va_A w0 sz) _ ht ⟨⟨B.exec, B.bytes, hml, findClass_of_methodNamed B.named, fun w h => atoms_spec (ws := .codeWith y b nL (some ry) hh :: tg) B.pre w (List.mem_cons_of_mem _ h)⟩, B.returns, B.notSynchronized, hK, hE, fun q h => Or.inr (by rw [← hsz]; exact h)⟩ ⟨hP, hD.self, va_S.rf⟩ (lv_entry as hn)
theorem rSW_i {post : Int32 → S → Prop} {b : ByteArray} {ry : FieldType} {hh : List (Nat × Nat × Nat × Nat)} (cx : Fx p s m args meth c A D cl tys cc nL own ret) (hw : Wd D cl A s H locs w0) (hM : MW l y b nLy ry hh rm D cl tys As w w0 post mc ms)
    (h1 : Cond.methodLink own idx y ∈ tg) (h2 : Cond.static y ∈ tg) (h3 : Cond.initialized y.cls ∈ tg) (h5 : Cond.codeWith y b nLy (some ry) hh ∈ tg) (hcr : CwR R rm nLy mc ms cells slots y n As st0 rest ls nL) (hst : st0 = As.reverse ++ rest) (hdg : decode cc pc = .ok (.invokestatic idx, 3)) :
    RunsI p l e R s m args below meth c H locs cells slots pc ls st0 rest D cl w w0 post mc ms := by
  obtain ⟨hd, hn, hls, hca, hR, hf, hrc, hrs⟩ := hcr
  exact ⟨_, vx_runSW cx.1 (hM H.size) (vx_cwSW n cx.ts (tg_in (tg_c h1 (tg_c h2 (tg_c h3 (tg_c h5 tg_s))))) rfl hrc hrs hd hR) ⟨bz_blind, hw.pre cx⟩ rfl hn hls hst (lv_room hca) hdg hf⟩
/-- the first row of the table catches E -/
theorem ctch {own name E : String} {ce : Cell} {q : Addr} {a b h t : Nat} {more : List (Nat × Nat × Nat × Nat)} (cx : Fx p s m args meth c A D cl tys cc nL own ret) (ht : c.exceptionTable.toList = tableOf ((a, b, h, t) :: more)) (hc : a ≤ pc ∧ pc < b) (h0 : t ≠ 0) (hl : Cond.classLink own t name ∈ tg) (hcast : Cond.castable E name ∈ nw_C) (h1 : H[q]? = some ce) (h2 : ce.vm = .none) (h3 : s.vm.findClass E = some ce.cls)
    (kk : W p l e R s m args below meth c H locs cells slots Q (F0 m h ls [.ref q])) : vx_W p l e R s m args below meth c H locs cells slots Q (F0 m pc ls rest) q := by
  refine vx_catch cx.ow [] ⟨a, b, h, t⟩ (tableOf more) (by rw [ht]; rfl) (fun z hz => by cases hz) (by simp [covers, hc.1, hc.2]) h0 (cx.ts _ hl) (va_Nw.use (nw_Cot _ hcast) (cx.ev.2.2.2.2.1 _ hcast)) h1 h2 h3 kk
/-- the second row catches E, the first doesn't -/
theorem ctch2 {own name name2 E : String} {ce : Cell} {q : Addr} {a b h t a2 b2 h2' t2 : Nat} {more : List (Nat × Nat × Nat × Nat)} (cx : Fx p s m args meth c A D cl tys cc nL own ret) (ht : c.exceptionTable.toList = tableOf ((a, b, h, t) :: (a2, b2, h2', t2) :: more)) (hc : a2 ≤ pc ∧ pc < b2) (h01 : t ≠ 0) (h0 : t2 ≠ 0) (hl1 : Cond.classLink own t name ∈ tg) (hn : va_Nc E name s) (hl : Cond.classLink own t2 name2 ∈ tg) (hcast : Cond.castable E name2 ∈ nw_C) (h1 : H[q]? = some ce) (h2 : ce.vm = .none) (h3 : s.vm.findClass E = some ce.cls)
    (kk : W p l e R s m args below meth c H locs cells slots Q (F0 m h2' ls [.ref q])) : vx_W p l e R s m args below meth c H locs cells slots Q (F0 m pc ls rest) q := by
  refine vx_catch cx.ow [⟨a, b, h, t⟩] ⟨a2, b2, h2', t2⟩ (tableOf more) (by rw [ht]; rfl) (fun z hz => ?_) (by simp [covers, hc.1, hc.2]) h0 (cx.ts _ hl) (va_Nw.use (nw_Cot _ hcast) (cx.ev.2.2.2.2.1 _ hcast)) h1 h2 h3 kk
  rw [List.mem_singleton.mp hz]
  exact Or.inr ⟨h01, name, cx.ts _ hl1, hn⟩
end Tab27
