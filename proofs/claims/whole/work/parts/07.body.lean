/-! bodies: how a contract is entered and left; fields and arrays of a world -/
section Body7
variable {p : Program} {l : Launch} {e : Env} {R : Room} {s : State} {m : MethodId} {args : Array Value} {below : List Frame} {meth : Method} {c : Code} {H : Heap} {locs : List Loc} {cells slots : Nat} {Q : State → Prop}
variable {A : Nat → Prop} {D : va_G} {cl : List vw_C} {tys : List (ClassId × FieldType)} {cc : ByteArray} {nL : Nat} {own : String} {ret : Option FieldType} {w0 : va_W}
variable {pc : Nat} {ls : Array Slot} {rest st0 : List Value}
variable {S : Type} {w : S → va_W} {mc ms : Nat} {y : MethodName} {rm : Room} {as : List Value}
/-- what a body owes at its end -/
def QI (D : va_G) (cl : List vw_C) (w : S → va_W) (A : Nat → Prop) (post : Int32 → S → Prop) (below : List Frame) (args : Array Value) (s : State) (mc ms : Nat) : State → Prop := MQ below (va_Qi post (fun u t => va_P D cl (w u) t.heap ∧ va_D A (w u)) A) args s mc ms A
def QV (D : va_G) (cl : List vw_C) (w : S → va_W) (A : Nat → Prop) (post : S → Prop) (below : List Frame) (args : Array Value) (s : State) (mc ms : Nat) : State → Prop := MQ below (va_Qv post (fun u t => va_P D cl (w u) t.heap ∧ va_D A (w u)) A) args s mc ms A
def QR (D : va_G) (cl : List vw_C) (w : S → va_W) (A : Nat → Prop) (post : Option Nat → S → Prop) (below : List Frame) (args : Array Value) (s : State) (mc ms : Nat) : State → Prop := MQ below (va_Qq post (fun u t => va_P D cl (w u) t.heap ∧ va_D A (w u)) A) args s mc ms A
def QX (D : va_G) (cl : List vw_C) (w : S → va_W) (A : Nat → Prop) (px : String → S → Prop) : String → State → State → Prop := vx_X (fun _ : S => True) (fun E u t => px E u ∧ va_P D cl (w u) t.heap ∧ va_D A (w u)) A
def QXI (D : va_G) (cl : List vw_C) (w : S → va_W) (A : Nat → Prop) (post : Int32 → S → Prop) (px : String → S → Prop) (below : List Frame) (args : Array Value) (s : State) (mc ms : Nat) : State → Prop := vx_MQ below (va_Qi post (fun u t => va_P D cl (w u) t.heap ∧ va_D A (w u)) A) (QX D cl w A px) args s mc ms A
def QXV (D : va_G) (cl : List vw_C) (w : S → va_W) (A : Nat → Prop) (post : S → Prop) (px : String → S → Prop) (below : List Frame) (args : Array Value) (s : State) (mc ms : Nat) : State → Prop := vx_MQ below (va_Qv post (fun u t => va_P D cl (w u) t.heap ∧ va_D A (w u)) A) (QX D cl w A px) args s mc ms A
theorem body_cx {ws' : List Cond} {s₁ : State} {sz : Nat} {maxL : Nat} (B : BodyLoose p l y (headSpec (.code y cc maxL ret :: tg) rm) cc maxL ret e s m args below meth c s₁) (hml : c.maxLocals = maxL) (hv : va_Pc as (bz_pre D cl tys w0 sz) args s) : args = as.toArray ∧ s.heap.size = sz ∧ Fx p s m args meth c (va_A w0 sz) D cl tys cc maxL y.cls ret ∧ Wd D cl (va_A w0 sz) s s.heap [] w0 := by
  obtain ⟨ha, hsz, hP, hK, hD, hE⟩ := hv
  refine ⟨ha, hsz, ⟨⟨B.exec, B.bytes, hml, findClass_of_methodNamed B.named, fun w h => atoms_spec (ws := .code y cc maxL ret :: tg) B.pre w (List.mem_cons_of_mem _ h)⟩, B.returns, B.notSynchronized, hK, hE, fun q h => Or.inr (by rw [← hsz]; exact h)⟩, hP, hD.self, va_S.rf⟩
theorem MI_of {b : ByteArray} {ry : FieldType} {post : Int32 → S → Prop} {nL : Nat} (hy : plainName y.cls = true) (hn : (lg_sl as).length ≤ nL)
    (body : ∀ (p : Program) (e : Env) (s : State) (m : MethodId) (args : Array Value) (below : List Frame) (meth : Method) (c : Code) (A : Nat → Prop) (ls : Array Slot), Fx p s m args meth c A D cl tys b nL y.cls (some ry) → Wd D cl A s s.heap [] w0 → lv_has ls nL (lv_args 0 as) → W p l e rm s m args below meth c s.heap [] 0 0 (QI D cl w A post below args s mc ms) (F0 m 0 ls [])) : MI l y b nL ry rm D cl tys as w w0 post mc ms := by
  intro sz
  refine Met.ofW (cc := b) (maxL := nL) (ret := some ry) hy rfl ?_
  intro p e s m args below meth c s₁ B hml hv
  obtain ⟨rfl, hsz, hx, hw⟩ := body_cx (ws' := []) B hml hv
  rw [lg_entry_eq]
  exact body p e s m _ below meth c (va_A w0 sz) _ hx hw (lv_entry as hn)
theorem MV_of {b : ByteArray} {post : S → Prop} {nL : Nat} (hy : plainName y.cls = true) (hn : (lg_sl as).length ≤ nL)
    (body : ∀ (p : Program) (e : Env) (s : State) (m : MethodId) (args : Array Value) (below : List Frame) (meth : Method) (c : Code) (A : Nat → Prop) (ls : Array Slot), Fx p s m args meth c A D cl tys b nL y.cls none → Wd D cl A s s.heap [] w0 → lv_has ls nL (lv_args 0 as) → W p l e rm s m args below meth c s.heap [] 0 0 (QV D cl w A post below args s mc ms) (F0 m 0 ls [])) : MV l y b nL rm D cl tys as w w0 post mc ms := by
  intro sz
  refine Met.ofW (cc := b) (maxL := nL) (ret := none) hy rfl ?_
  intro p e s m args below meth c s₁ B hml hv
  obtain ⟨rfl, hsz, hx, hw⟩ := body_cx (ws' := []) B hml hv
  rw [lg_entry_eq]
  exact body p e s m _ below meth c (va_A w0 sz) _ hx hw (lv_entry as hn)
/-- a constructor: its name is known too -/
theorem MVi_of {b : ByteArray} {post : S → Prop} {nL : Nat} (hy : plainName y.cls = true) (hyn : y.name = "<init>") (hn : (lg_sl as).length ≤ nL)
    (body : ∀ (p : Program) (e : Env) (s : State) (m : MethodId) (args : Array Value) (below : List Frame) (meth : Method) (c : Code) (A : Nat → Prop) (ls : Array Slot), meth.name = "<init>" → Fx p s m args meth c A D cl tys b nL y.cls none → Wd D cl A s s.heap [] w0 → lv_has ls nL (lv_args 0 as) → W p l e rm s m args below meth c s.heap [] 0 0 (QV D cl w A post below args s mc ms) (F0 m 0 ls [])) : MV l y b nL rm D cl tys as w w0 post mc ms := by
  intro sz
  refine Met.ofW (cc := b) (maxL := nL) (ret := none) hy rfl ?_
  intro p e s m args below meth c s₁ B hml hv
  obtain ⟨rfl, hsz, hx, hw⟩ := body_cx (ws' := []) B hml hv
  rw [lg_entry_eq]
  exact body p e s m _ below meth c (va_A w0 sz) _ ((name_of_methodNamed B.named B.method).1.trans hyn) hx hw (lv_entry as hn)
theorem MR_of {b : ByteArray} {ry : FieldType} {post : Option Nat → S → Prop} {nL : Nat} (hy : plainName y.cls = true) (hn : (lg_sl as).length ≤ nL)
    (body : ∀ (p : Program) (e : Env) (s : State) (m : MethodId) (args : Array Value) (below : List Frame) (meth : Method) (c : Code) (A : Nat → Prop) (ls : Array Slot), Fx p s m args meth c A D cl tys b nL y.cls (some ry) → Wd D cl A s s.heap [] w0 → lv_has ls nL (lv_args 0 as) → W p l e rm s m args below meth c s.heap [] 0 0 (QR D cl w A post below args s mc ms) (F0 m 0 ls [])) : MR l y b nL ry rm D cl tys as w w0 post mc ms := by
  intro sz
  refine Met.ofW (cc := b) (maxL := nL) (ret := some ry) hy rfl ?_
  intro p e s m args below meth c s₁ B hml hv
  obtain ⟨rfl, hsz, hx, hw⟩ := body_cx (ws' := []) B hml hv
  rw [lg_entry_eq]
  exact body p e s m _ below meth c (va_A w0 sz) _ hx hw (lv_entry as hn)
theorem XI_of {b : ByteArray} {ry : FieldType} {post : Int32 → S → Prop} {px : String → S → Prop} {nL : Nat} (hy : plainName y.cls = true) (hn : (lg_sl as).length ≤ nL)
    (body : ∀ (p : Program) (e : Env) (s : State) (m : MethodId) (args : Array Value) (below : List Frame) (meth : Method) (c : Code) (A : Nat → Prop) (ls : Array Slot), (∀ x ∈ c.exceptionTable.toList, False) → Fx p s m args meth c A D cl tys b nL y.cls (some ry) → Wd D cl A s s.heap [] w0 → lv_has ls nL (lv_args 0 as) → W p l e rm s m args below meth c s.heap [] 0 0 (QXI D cl w A post px below args s mc ms) (F0 m 0 ls [])) : XI l y b nL ry rm D cl tys as w w0 post px mc ms := by
  intro sz
  refine vx_ofW (cc := b) (maxL := nL) (ret := some ry) hy rfl ?_
  intro p e s m args below meth c s₁ B hml ht hv
  obtain ⟨rfl, hsz, hx, hw⟩ := body_cx (ws' := []) B hml hv
  rw [lg_entry_eq]
  exact body p e s m _ below meth c (va_A w0 sz) _ ht hx hw (lv_entry as hn)
theorem XV_of {b : ByteArray} {post : S → Prop} {px : String → S → Prop} {nL : Nat} (hy : plainName y.cls = true) (hn : (lg_sl as).length ≤ nL)
    (body : ∀ (p : Program) (e : Env) (s : State) (m : MethodId) (args : Array Value) (below : List Frame) (meth : Method) (c : Code) (A : Nat → Prop) (ls : Array Slot), (∀ x ∈ c.exceptionTable.toList, False) → Fx p s m args meth c A D cl tys b nL y.cls none → Wd D cl A s s.heap [] w0 → lv_has ls nL (lv_args 0 as) → W p l e rm s m args below meth c s.heap [] 0 0 (QXV D cl w A post px below args s mc ms) (F0 m 0 ls [])) : XV l y b nL rm D cl tys as w w0 post px mc ms := by
  intro sz
  refine vx_ofW (cc := b) (maxL := nL) (ret := none) hy rfl ?_
  intro p e s m args below meth c s₁ B hml ht hv
  obtain ⟨rfl, hsz, hx, hw⟩ := body_cx (ws' := []) B hml hv
  rw [lg_entry_eq]
  exact body p e s m _ below meth c (va_A w0 sz) _ ht hx hw (lv_entry as hn)
variable {v : Int32}
theorem ret_i {post : Int32 → S → Prop} (u : S) (cx : Fx p s m args meth c A D cl tys cc nL own (some .int)) (hw : Wd D cl A s H locs (w u)) (hp : post v u) (hdg : decode cc pc = .ok (.ireturn, 1)) (hc : cells ≤ mc) (hs : slots ≤ ms) : W p l e R s m args below meth c H locs cells slots (QI D cl w A post below args s mc ms) (F0 m pc ls [.int v]) := by
  refine W.widen hc hs ?_
  exact W.iret cx.x cx.b cx.r (fun t ht _ => ⟨⟨v, u, rfl, hp, by rw [ht]; exact hw.1, hw.2.1⟩, hw.2.2.F ht⟩) hw.2.2.2.2 hdg cx.lk
theorem ret_z {post : Int32 → S → Prop} (u : S) (cx : Fx p s m args meth c A D cl tys cc nL own (some .boolean)) (hw : Wd D cl A s H locs (w u)) (hv : narrow .boolean (.int v) = .int v) (hp : post v u) (hdg : decode cc pc = .ok (.ireturn, 1)) (hc : cells ≤ mc) (hs : slots ≤ ms) : W p l e R s m args below meth c H locs cells slots (QI D cl w A post below args s mc ms) (F0 m pc ls [.int v]) := by
  refine W.widen hc hs ?_
  exact W.zret cx.x cx.b cx.r hv (fun t ht _ => ⟨⟨v, u, rfl, hp, by rw [ht]; exact hw.1, hw.2.1⟩, hw.2.2.F ht⟩) hw.2.2.2.2 hdg cx.lk
theorem ret_v {post : S → Prop} (u : S) (cx : Fx p s m args meth c A D cl tys cc nL own none) (hw : Wd D cl A s H locs (w u)) (hp : post u) (hdg : decode cc pc = .ok (.return_, 1)) (hc : cells ≤ mc) (hs : slots ≤ ms) : W p l e R s m args below meth c H locs cells slots (QV D cl w A post below args s mc ms) (F0 m pc ls []) := by
  refine W.widen hc hs ?_
  exact W.vret cx.x cx.b cx.r (fun t ht _ => ⟨⟨u, rfl, hp, by rw [ht]; exact hw.1, hw.2.1⟩, hw.2.2.F ht⟩) hw.2.2.2.2 hdg cx.lk
theorem ret_r {post : Option Nat → S → Prop} {n : String} {r : Option Nat} (u : S) (cx : Fx p s m args meth c A D cl tys cc nL own (some (.object n))) (hw : Wd D cl A s H locs (w u)) (hp : post r u) (hdg : decode cc pc = .ok (.areturn, 1)) (hc : cells ≤ mc) (hs : slots ≤ ms) : W p l e R s m args below meth c H locs cells slots (QR D cl w A post below args s mc ms) (F0 m pc ls [va_rf r]) := by
  refine W.widen hc hs ?_
  exact W.aret cx.x cx.b cx.r (Or.inl ⟨n, rfl⟩) (by cases r with | none => exact Or.inl rfl | some a => exact Or.inr ⟨a, rfl⟩) (fun t ht _ => ⟨⟨r, u, rfl, hp, by rw [ht]; exact hw.1, hw.2.1⟩, hw.2.2.F ht⟩) hw.2.2.2.2 hdg cx.lk
theorem xret_i {post : Int32 → S → Prop} {px : String → S → Prop} (u : S) (cx : Fx p s m args meth c A D cl tys cc nL own (some .int)) (hw : Wd D cl A s H locs (w u)) (hp : post v u) (hdg : decode cc pc = .ok (.ireturn, 1)) (hc : cells ≤ mc) (hs : slots ≤ ms) : W p l e R s m args below meth c H locs cells slots (QXI D cl w A post px below args s mc ms) (F0 m pc ls [.int v]) := vx_ret (ret_i u cx hw hp hdg hc hs)
theorem xret_z {post : Int32 → S → Prop} {px : String → S → Prop} (u : S) (cx : Fx p s m args meth c A D cl tys cc nL own (some .boolean)) (hw : Wd D cl A s H locs (w u)) (hv : narrow .boolean (.int v) = .int v) (hp : post v u) (hdg : decode cc pc = .ok (.ireturn, 1)) (hc : cells ≤ mc) (hs : slots ≤ ms) : W p l e R s m args below meth c H locs cells slots (QXI D cl w A post px below args s mc ms) (F0 m pc ls [.int v]) := vx_ret (ret_z u cx hw hv hp hdg hc hs)
theorem xret_v {post : S → Prop} {px : String → S → Prop} (u : S) (cx : Fx p s m args meth c A D cl tys cc nL own none) (hw : Wd D cl A s H locs (w u)) (hp : post u) (hdg : decode cc pc = .ok (.return_, 1)) (hc : cells ≤ mc) (hs : slots ≤ ms) : W p l e R s m args below meth c H locs cells slots (QXV D cl w A post px below args s mc ms) (F0 m pc ls []) := vx_ret (ret_v u cx hw hp hdg hc hs)
/-- an exception goes on to the caller -/
theorem xout_i {post : Int32 → S → Prop} {px : String → S → Prop} {E : String} {ce : Cell} {q : Addr} (u : S) (ht : ∀ x ∈ c.exceptionTable.toList, False) (cx : Fx p s m args meth c A D cl tys cc nL own ret) (hw : Wd D cl A s H locs (w u)) (hp : px E u) (hc : cells ≤ mc) (hs : slots ≤ ms) (h1 : H[q]? = some ce) (h2 : ce.vm = .none) (h3 : s.vm.findClass E = some ce.cls) : vx_W p l e R s m args below meth c H locs cells slots (QXI D cl w A post px below args s mc ms) (F0 m pc ls rest) q :=
  vx_out (fun x hx => (ht x hx).elim) cx.lk h1 h2 h3 (fun t ht _ => ⟨u, trivial, ⟨hp, by rw [ht]; exact hw.1, hw.2.1⟩, hw.2.2.F ht⟩) hw.2.2.2.2 hc hs
theorem xout_v {post : S → Prop} {px : String → S → Prop} {E : String} {ce : Cell} {q : Addr} (u : S) (ht : ∀ x ∈ c.exceptionTable.toList, False) (cx : Fx p s m args meth c A D cl tys cc nL own ret) (hw : Wd D cl A s H locs (w u)) (hp : px E u) (hc : cells ≤ mc) (hs : slots ≤ ms) (h1 : H[q]? = some ce) (h2 : ce.vm = .none) (h3 : s.vm.findClass E = some ce.cls) : vx_W p l e R s m args below meth c H locs cells slots (QXV D cl w A post px below args s mc ms) (F0 m pc ls rest) q :=
  vx_out (fun x hx => (ht x hx).elim) cx.lk h1 h2 h3 (fun t ht _ => ⟨u, trivial, ⟨hp, by rw [ht]; exact hw.1, hw.2.1⟩, hw.2.2.F ht⟩) hw.2.2.2.2 hc hs
variable {a ci idx : Nat} {C ref : String} {T : u_T} {N : Nat} {fs : List Value}
/-- a field is read: the named class declares it, or it is the same field -/
theorem gt_f (cx : Fx p s m args meth c A D cl tys cc nL own ret) (hw : Wd D cl A s H locs w0) (q0 : Nat) (he : w0[q0]? = some (a, .inr (ci, fs))) (hc : cl[ci]? = some (C, T, N)) (hin : ∀ x ∈ u_ws C T N, x ∈ tg) (k : Nat) (hk : k < N) {fn fd : String} (hlink : Cond.fieldLink own idx ref fn fd ∈ tg) (hT : fn = (T k).2.1 ∧ fd = (T k).2.2.1 ∧ (ref = (T k).1 ∨ Cond.sameField ref (T k).1 fn fd ∈ tg)) {v : Value} (hv : fs[k]? = some v) (hdg : decode cc pc = .ok (.getfield idx, 3))
    (kk : W p l e R s m args below meth c H locs cells slots Q (F0 m (pc + 3) ls (v :: rest))) : W p l e R s m args below meth c H locs cells slots Q (F0 m pc ls (.ref a :: rest)) := by
  obtain ⟨rfl, rfl, hs⟩ := hT
  refine va_get cx.x cx.b cx.ts hin cx.ow cx.k hw.1 q0 he hc k hk (cx.ts _ hlink) (fun x hx => ?_) hv hdg kk
  rcases hs with rfl | hs
  · exact hx
  · exact u_same (cx.ts _ hs) x hx
theorem pt_f (cx : Fx p s m args meth c A D cl tys cc nL own ret) (hw : Wd D cl A s H locs w0) (q0 : Nat) (he : w0[q0]? = some (a, .inr (ci, fs))) (hc : cl[ci]? = some (C, T, N)) (hin : ∀ x ∈ u_ws C T N, x ∈ tg) (ty0 : Nat → FieldType) (hty : ∀ k, k < N → parseFieldDescriptor (T k).2.2.1 = some (ty0 k)) (hnm : ∀ a, a < N → ∀ b, b < N → a ≠ b → (T a).2.1 ≠ (T b).2.1) (k : Nat) (hk : k < N) {fn fd : String} (hlink : Cond.fieldLink own idx ref fn fd ∈ tg) (hT : fn = (T k).2.1 ∧ fd = (T k).2.2.1 ∧ (ref = (T k).1 ∨ Cond.sameField ref (T k).1 fn fd ∈ tg)) (hfin : (T k).2.2.2 = false) {ty : FieldType} {v : Value} (hd : ty0 k = ty) (hn : narrow ty v = v) (hfit : fits ty v = true) (hl : k < fs.length) (hdg : decode cc pc = .ok (.putfield idx, 3)) {w1 : va_W} (hset : w0.set q0 (a, .inr (ci, fs.set k v)) = w1)
    (kk : ∀ (H1 : Heap) (locs1 : List Loc), Wd D cl A s H1 locs1 w1 → W p l e R s m args below meth c H1 locs1 cells slots Q (F0 m (pc + 3) ls rest)) : W p l e R s m args below meth c H locs cells slots Q (F0 m pc ls (v :: .ref a :: rest)) := by
  obtain ⟨rfl, rfl, hs⟩ := hT
  subst hset
  refine va_put cx.x cx.b cx.ts hin ty0 hty hnm cx.ow cx.k hw.1 hw.2.1 hw.2.2 q0 he hc k hk (cx.ts _ hlink) (fun x hx => ?_) hfin (by rw [hty k hk, hd]) hn hfit hl hdg (fun H1 locs1 h1 h2 h3 => kk H1 locs1 ⟨h1, h2, h3⟩)
  rcases hs with rfl | hs
  · exact hx
  · exact u_same (cx.ts _ hs) x hx
/-- a final field, in its constructor -/
theorem ptF_f (cx : Fx p s m args meth c A D cl tys cc nL own ret) (hin2 : meth.name = "<init>") (hw : Wd D cl A s H locs w0) (q0 : Nat) (he : w0[q0]? = some (a, .inr (ci, fs))) (hc : cl[ci]? = some (C, T, N)) (hin : ∀ x ∈ u_ws C T N, x ∈ tg) (ty0 : Nat → FieldType) (hty : ∀ k, k < N → parseFieldDescriptor (T k).2.2.1 = some (ty0 k)) (hnm : ∀ a, a < N → ∀ b, b < N → a ≠ b → (T a).2.1 ≠ (T b).2.1) (k : Nat) (hk : k < N) {fn fd : String} (hlink : Cond.fieldLink own idx ref fn fd ∈ tg) (hT : fn = (T k).2.1 ∧ fd = (T k).2.2.1 ∧ ref = (T k).1 ∧ (T k).1 = own) (hfin : (T k).2.2.2 = true) {ty : FieldType} {v : Value} (hd : ty0 k = ty) (hn : narrow ty v = v) (hfit : fits ty v = true) (hl : k < fs.length) (hdg : decode cc pc = .ok (.putfield idx, 3)) {w1 : va_W} (hset : w0.set q0 (a, .inr (ci, fs.set k v)) = w1)
    (kk : ∀ (H1 : Heap) (locs1 : List Loc), Wd D cl A s H1 locs1 w1 → W p l e R s m args below meth c H1 locs1 cells slots Q (F0 m (pc + 3) ls rest)) : W p l e R s m args below meth c H locs cells slots Q (F0 m pc ls (v :: .ref a :: rest)) := by
  obtain ⟨rfl, rfl, rfl, ho⟩ := hT
  subst hset
  exact va_putF cx.x cx.b cx.ts hin ty0 hty hnm cx.ow cx.k hw.1 hw.2.1 hw.2.2 q0 he hc k hk (cx.ts _ hlink) (fun x hx => hx) hfin hin2 ho (by rw [hty k hk, hd]) hn hfit hl hdg (fun H1 locs1 h1 h2 h3 => kk H1 locs1 ⟨h1, h2, h3⟩)
/-- int arrays -/
theorem ald_i (cx : Fx p s m args meth c A D cl tys cc nL own ret) (hw : Wd D cl A s H locs w0) (q0 t0 : Nat) {cA : ClassId} {n : Nat} {f : Nat → Int32} (ha : w0[q0]? = some (a, .inl (cA, n, .inl f))) (ht : tys[t0]? = some (cA, .int)) (j : Nat) {i : Int32} (hi : i = nI j) (hj : j < n) (hn : n < 2 ^ 31) (hdg : decode cc pc = .ok (.iaload, 1))
    (kk : W p l e R s m args below meth c H locs cells slots Q (F0 m (pc + 1) ls (.int (f j) :: rest))) : W p l e R s m args below meth c H locs cells slots Q (F0 m pc ls (.int i :: .ref a :: rest)) := by
  subst hi
  refine va_iald cx.x cx.b cx.k hw.1 q0 t0 ha ht (vp_in_nI hj hn) hdg ?_
  rw [nI_clamp (Nat.lt_trans hj hn)]
  exact kk
theorem ast_i (cx : Fx p s m args meth c A D cl tys cc nL own ret) (hw : Wd D cl A s H locs w0) (q0 t0 : Nat) {cA : ClassId} {n : Nat} {f : Nat → Int32} (ha : w0[q0]? = some (a, .inl (cA, n, .inl f))) (ht : tys[t0]? = some (cA, .int)) (j : Nat) {i x : Int32} (hi : i = nI j) (hj : j < n) (hn : n < 2 ^ 31) (hdg : decode cc pc = .ok (.iastore, 1)) {w1 : va_W} (hset : w0.set q0 (a, .inl (cA, n, .inl (upd f j x))) = w1)
    (kk : ∀ (H1 : Heap) (locs1 : List Loc), Wd D cl A s H1 locs1 w1 → W p l e R s m args below meth c H1 locs1 cells slots Q (F0 m (pc + 1) ls rest)) : W p l e R s m args below meth c H locs cells slots Q (F0 m pc ls (.int x :: .int i :: .ref a :: rest)) := by
  subst hi
  subst hset
  refine va_iast cx.x cx.b cx.k hw.1 hw.2.1 hw.2.2 q0 t0 ha ht (vp_in_nI hj hn) hdg (fun H1 locs1 h1 h2 h3 => ?_)
  rw [nI_clamp (Nat.lt_trans hj hn)] at h1 h2
  exact kk H1 locs1 ⟨h1, h2, h3⟩
/-- arrays of references -/
theorem ald_r (cx : Fx p s m args meth c A D cl tys cc nL own ret) (hw : Wd D cl A s H locs w0) (q0 t0 : Nat) {cA : ClassId} {n : Nat} {f : Nat → Option Nat} {C : String} (ha : w0[q0]? = some (a, .inl (cA, n, .inr (.inr (.inr (.inr f)))))) (ht : tys[t0]? = some (cA, .object C)) (j : Nat) {i : Int32} (hi : i = nI j) (hj : j < n) (hn : n < 2 ^ 31) (hdg : decode cc pc = .ok (.aaload, 1)) {v : Value} (hv : va_rf (f j) = v)
    (kk : W p l e R s m args below meth c H locs cells slots Q (F0 m (pc + 1) ls (v :: rest))) : W p l e R s m args below meth c H locs cells slots Q (F0 m pc ls (.int i :: .ref a :: rest)) := by
  subst hi
  subst hv
  refine va_aldq cx.x cx.b cx.k hw.1 q0 t0 ha ht (vp_in_nI hj hn) hdg ?_
  rw [nI_clamp (Nat.lt_trans hj hn)]
  exact kk
end Body7
