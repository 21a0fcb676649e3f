section Calls5
variable {p : Program} {l : Launch} {e : Env} {R : Room} {s : State} {m : MethodId} {args : Array Value} {below : List Frame} {meth : Method} {c : Code} {H : Heap} {locs : List Loc} {cells slots : Nat} {Q : State → Prop}
variable {A : Nat → Prop} {D : va_G} {cl : List vw_C} {tys : List (ClassId × FieldType)} {cc : ByteArray} {nL : Nat} {own : String} {ret : Option FieldType} {w0 : va_W}
variable {pc : Nat} {ls : Array Slot} {rest st0 : List Value}
/-- a run of a callee, whatever the way it is called: returns -/
def RunsI {S : Type} (p : Program) (l : Launch) (e : Env) (R : Room) (s : State) (m : MethodId) (args : Array Value) (below : List Frame) (meth : Method) (c : Code) (H : Heap) (locs : List Loc) (cells slots : Nat) (pc : Nat) (ls : Array Slot) (st0 rest : List Value) (D : va_G) (cl : List vw_C) (w : S → va_W) (w0 : va_W) (post : Int32 → S → Prop) (mc ms : Nat) : Prop :=
  ∃ a, va_Run p l e R s m args below meth c H locs cells slots mc ms (F0 m pc ls st0) rest (va_Qi post (bz_B D cl w w0 H.size) (va_A w0 H.size) a) (va_A w0 H.size)
def RunsV {S : Type} (p : Program) (l : Launch) (e : Env) (R : Room) (s : State) (m : MethodId) (args : Array Value) (below : List Frame) (meth : Method) (c : Code) (H : Heap) (locs : List Loc) (cells slots : Nat) (pc : Nat) (ls : Array Slot) (st0 rest : List Value) (D : va_G) (cl : List vw_C) (w : S → va_W) (w0 : va_W) (post : S → Prop) (mc ms : Nat) : Prop :=
  ∃ a, va_Run p l e R s m args below meth c H locs cells slots mc ms (F0 m pc ls st0) rest (va_Qv post (bz_B D cl w w0 H.size) (va_A w0 H.size) a) (va_A w0 H.size)
def RunsR {S : Type} (p : Program) (l : Launch) (e : Env) (R : Room) (s : State) (m : MethodId) (args : Array Value) (below : List Frame) (meth : Method) (c : Code) (H : Heap) (locs : List Loc) (cells slots : Nat) (pc : Nat) (ls : Array Slot) (st0 rest : List Value) (D : va_G) (cl : List vw_C) (w : S → va_W) (w0 : va_W) (post : Option Nat → S → Prop) (mc ms : Nat) : Prop :=
  ∃ a, va_Run p l e R s m args below meth c H locs cells slots mc ms (F0 m pc ls st0) rest (va_Qq post (bz_B D cl w w0 H.size) (va_A w0 H.size) a) (va_A w0 H.size)
def RunsXI {S : Type} (p : Program) (l : Launch) (e : Env) (R : Room) (s : State) (m : MethodId) (args : Array Value) (below : List Frame) (meth : Method) (c : Code) (H : Heap) (locs : List Loc) (cells slots : Nat) (pc : Nat) (ls : Array Slot) (st0 rest : List Value) (D : va_G) (cl : List vw_C) (w : S → va_W) (w0 : va_W) (post : Int32 → S → Prop) (px : String → S → Prop) (mc ms : Nat) : Prop :=
  ∃ a, vx_Run p l e R s m args below meth c H locs cells slots mc ms (F0 m pc ls st0) rest (va_Qi post (bz_B D cl w w0 H.size) (va_A w0 H.size) a) (vx_X (fun _ : S => True) (bz_X D cl w w0 H.size px) (va_A w0 H.size)) (va_A w0 H.size)
def RunsXV {S : Type} (p : Program) (l : Launch) (e : Env) (R : Room) (s : State) (m : MethodId) (args : Array Value) (below : List Frame) (meth : Method) (c : Code) (H : Heap) (locs : List Loc) (cells slots : Nat) (pc : Nat) (ls : Array Slot) (st0 rest : List Value) (D : va_G) (cl : List vw_C) (w : S → va_W) (w0 : va_W) (post : S → Prop) (px : String → S → Prop) (mc ms : Nat) : Prop :=
  ∃ a, vx_Run p l e R s m args below meth c H locs cells slots mc ms (F0 m pc ls st0) rest (va_Qv post (bz_B D cl w w0 H.size) (va_A w0 H.size) a) (vx_X (fun _ : S => True) (bz_X D cl w w0 H.size px) (va_A w0 H.size)) (va_A w0 H.size)
theorem cgo_i {S : Type} {w : S → va_W} {post : Int32 → S → Prop} {mc ms : Nat} (cx : Fx p s m args meth c A D cl tys cc nL own ret) (hw : Wd D cl A s H locs w0) (hr : RunsI p l e R s m args below meth c H locs cells slots pc ls st0 rest D cl w w0 post mc ms)
    (kk : ∀ (r : Int32) (u : S) (H1 : Heap) (locs1 : List Loc), post r u → Wd D cl A s H1 locs1 (w u) → W p l e R s m args below meth c H1 locs1 (cells + mc) (slots + ms) Q (F0 m (pc + 3) ls (.int r :: rest))) : W p l e R s m args below meth c H locs cells slots Q (F0 m pc ls st0) := by
  obtain ⟨a, hr⟩ := hr
  exact va_calli hr hw.2.2 (fun q _ h => hw.free cx q h) (hw.free cx) (fun r u t H1 locs1 ht _ hp hB _ _ hS => kk r u H1 locs1 hp (hw.back cx ht hB hS))
theorem cgo_v {S : Type} {w : S → va_W} {post : S → Prop} {mc ms : Nat} (cx : Fx p s m args meth c A D cl tys cc nL own ret) (hw : Wd D cl A s H locs w0) (hr : RunsV p l e R s m args below meth c H locs cells slots pc ls st0 rest D cl w w0 post mc ms)
    (kk : ∀ (u : S) (H1 : Heap) (locs1 : List Loc), post u → Wd D cl A s H1 locs1 (w u) → W p l e R s m args below meth c H1 locs1 (cells + mc) (slots + ms) Q (F0 m (pc + 3) ls rest)) : W p l e R s m args below meth c H locs cells slots Q (F0 m pc ls st0) := by
  obtain ⟨a, hr⟩ := hr
  exact va_callv hr hw.2.2 (fun q _ h => hw.free cx q h) (hw.free cx) (fun u t H1 locs1 ht _ hp hB _ _ hS => kk u H1 locs1 hp (hw.back cx ht hB hS))
theorem cgo_r {S : Type} {w : S → va_W} {post : Option Nat → S → Prop} {mc ms : Nat} (cx : Fx p s m args meth c A D cl tys cc nL own ret) (hw : Wd D cl A s H locs w0) (hr : RunsR p l e R s m args below meth c H locs cells slots pc ls st0 rest D cl w w0 post mc ms)
    (kk : ∀ (r : Option Nat) (u : S) (H1 : Heap) (locs1 : List Loc), post r u → Wd D cl A s H1 locs1 (w u) → W p l e R s m args below meth c H1 locs1 (cells + mc) (slots + ms) Q (F0 m (pc + 3) ls (va_rf r :: rest))) : W p l e R s m args below meth c H locs cells slots Q (F0 m pc ls st0) := by
  obtain ⟨a, hr⟩ := hr
  exact va_callq hr hw.2.2 (fun q _ h => hw.free cx q h) (hw.free cx) (fun r u t H1 locs1 ht _ hp hB _ _ hS => kk r u H1 locs1 hp (hw.back cx ht hB hS))
theorem cgo_xi {S : Type} {w : S → va_W} {post : Int32 → S → Prop} {px : String → S → Prop} {mc ms : Nat} (cx : Fx p s m args meth c A D cl tys cc nL own ret) (hw : Wd D cl A s H locs w0) (hr : RunsXI p l e R s m args below meth c H locs cells slots pc ls st0 rest D cl w w0 post px mc ms)
    (kx : ∀ (E : String) (ce : Cell) (q : Addr) (u : S) (H1 : Heap) (locs1 : List Loc), px E u → Wd D cl A s H1 locs1 (w u) → H1[q]? = some ce → ce.vm = .none → s.vm.findClass E = some ce.cls → vx_W p l e R s m args below meth c H1 locs1 (cells + mc) (slots + ms) Q (F0 m pc ls rest) q)
    (kk : ∀ (r : Int32) (u : S) (H1 : Heap) (locs1 : List Loc), post r u → Wd D cl A s H1 locs1 (w u) → W p l e R s m args below meth c H1 locs1 (cells + mc) (slots + ms) Q (F0 m (pc + 3) ls (.int r :: rest))) : W p l e R s m args below meth c H locs cells slots Q (F0 m pc ls st0) := by
  obtain ⟨a, hr⟩ := hr
  exact vx_calli hr hw.2.2 (fun q _ h => hw.free cx q h) (hw.free cx) (fun q _ h => hw.free cx q h) (fun E ce q u t H1 locs1 ht _ _ hB _ _ hS h1 h2 h3 => kx E ce q u H1 locs1 (hw.backX cx ht hB hS).1 (hw.backX cx ht hB hS).2 h1 h2 h3) (fun r u t H1 locs1 ht _ hp hB _ _ hS => kk r u H1 locs1 hp (hw.back cx ht hB hS))
theorem cgo_xv {S : Type} {w : S → va_W} {post : S → Prop} {px : String → S → Prop} {mc ms : Nat} (cx : Fx p s m args meth c A D cl tys cc nL own ret) (hw : Wd D cl A s H locs w0) (hr : RunsXV p l e R s m args below meth c H locs cells slots pc ls st0 rest D cl w w0 post px mc ms)
    (kx : ∀ (E : String) (ce : Cell) (q : Addr) (u : S) (H1 : Heap) (locs1 : List Loc), px E u → Wd D cl A s H1 locs1 (w u) → H1[q]? = some ce → ce.vm = .none → s.vm.findClass E = some ce.cls → vx_W p l e R s m args below meth c H1 locs1 (cells + mc) (slots + ms) Q (F0 m pc ls rest) q)
    (kk : ∀ (u : S) (H1 : Heap) (locs1 : List Loc), post u → Wd D cl A s H1 locs1 (w u) → W p l e R s m args below meth c H1 locs1 (cells + mc) (slots + ms) Q (F0 m (pc + 3) ls rest)) : W p l e R s m args below meth c H locs cells slots Q (F0 m pc ls st0) := by
  obtain ⟨a, hr⟩ := hr
  exact vx_callv hr hw.2.2 (fun q _ h => hw.free cx q h) (hw.free cx) (fun q _ h => hw.free cx q h) (fun E ce q u t H1 locs1 ht _ _ hB _ _ hS h1 h2 h3 => kx E ce q u H1 locs1 (hw.backX cx ht hB hS).1 (hw.backX cx ht hB hS).2 h1 h2 h3) (fun u t H1 locs1 ht _ hp hB _ _ hS => kk u H1 locs1 hp (hw.back cx ht hB hS))
/-- a receiver in the world -/
theorem Wd.recv {a q0 ci : Nat} {C : String} {T : u_T} {N : Nat} {fs : List Value} (cx : Fx p s m args meth c A D cl tys cc nL own ret) (hw : Wd D cl A s H locs w0) (he : w0[q0]? = some (a, .inr (ci, fs))) (hc : cl[ci]? = some (C, T, N)) : ∃ cell : Cell, H[a]? = some cell ∧ cell.vm.isStatics = false ∧ s.vm.findClass C = some cell.cls := va_recv cx.k hw.1 hc he
variable {idx nLy n mc ms : Nat} {y : MethodName} {b : ByteArray} {ry : FieldType} {rm : Room} {As : List Value}
/-- the ways of a call: words, room, the stack -/
def CwR (R rm : Room) (nLy mc ms cells slots : Nat) (y : MethodName) (n : Nat) (As st0 rest : List Value) (ls : Array Slot) (nL : Nat) : Prop :=
  (y.cls ≠ "java/lang/invoke/MethodHandle" ∧ y.cls ≠ "java/lang/invoke/VarHandle" ∧ (parseMethodDescriptor y.desc).map (fun d => d.parameters.length) = some n) ∧ As.length = n ∧ ls.size = nL ∧ (rest.map fun v => v.category).sum ≤ 8 ∧ (rm.frames + 1 ≤ R.frames ∧ 8 + (nLy + 11) + rm.locals ≤ R.locals) ∧ (cells + mc ≤ R.cells ∧ slots + ms ≤ R.slots) ∧ rm.cells = mc ∧ rm.slots = ms
theorem rV_i {S : Type} {w : S → va_W} {post : Int32 → S → Prop} {a q0 ci : Nat} {C : String} {T : u_T} {N : Nat} {fs : List Value} (cx : Fx p s m args meth c A D cl tys cc nL own ret) (hw : Wd D cl A s H locs w0) (hM : MI l y b nLy ry rm D cl tys (.ref a :: As) w w0 post mc ms)
    (hg : GoodIn tg (wsV own idx C y (.code y b nLy (some ry) :: tg))) (hyC : y.cls = C) (hcr : CwR R rm nLy mc ms cells slots y n As st0 rest ls nL) (hst : st0 = As.reverse ++ .ref a :: rest) (he : w0[q0]? = some (a, .inr (ci, fs))) (hc : cl[ci]? = some (C, T, N)) (hdg : decode cc pc = .ok (.invokevirtual idx, 3)) :
    RunsI p l e R s m args below meth c H locs cells slots pc ls st0 rest D cl w w0 post mc ms := by
  obtain ⟨hd, hn, hls, hca, hR, hf, hrc, hrs⟩ := hcr
  exact ⟨_, va_runV cx.1 (hM H.size) (cwV n cx.ts hg rfl hrc hrs ⟨hyC, hd⟩ hR) ⟨bz_blind, hw.recv cx he hc, hw.pre cx⟩ rfl hn hls hst (lv_room hca) hdg hf⟩
theorem rV_v {S : Type} {w : S → va_W} {post : S → Prop} {a q0 ci : Nat} {C : String} {T : u_T} {N : Nat} {fs : List Value} (cx : Fx p s m args meth c A D cl tys cc nL own ret) (hw : Wd D cl A s H locs w0) (hM : MV l y b nLy rm D cl tys (.ref a :: As) w w0 post mc ms)
    (hg : GoodIn tg (wsV own idx C y (.code y b nLy none :: tg))) (hyC : y.cls = C) (hcr : CwR R rm nLy mc ms cells slots y n As st0 rest ls nL) (hst : st0 = As.reverse ++ .ref a :: rest) (he : w0[q0]? = some (a, .inr (ci, fs))) (hc : cl[ci]? = some (C, T, N)) (hdg : decode cc pc = .ok (.invokevirtual idx, 3)) :
    RunsV p l e R s m args below meth c H locs cells slots pc ls st0 rest D cl w w0 post mc ms := by
  obtain ⟨hd, hn, hls, hca, hR, hf, hrc, hrs⟩ := hcr
  exact ⟨_, va_runV cx.1 (hM H.size) (cwV n cx.ts hg rfl hrc hrs ⟨hyC, hd⟩ hR) ⟨bz_blind, hw.recv cx he hc, hw.pre cx⟩ rfl hn hls hst (lv_room hca) hdg hf⟩
theorem rV_r {S : Type} {w : S → va_W} {post : Option Nat → S → Prop} {a q0 ci : Nat} {C : String} {T : u_T} {N : Nat} {fs : List Value} (cx : Fx p s m args meth c A D cl tys cc nL own ret) (hw : Wd D cl A s H locs w0) (hM : MR l y b nLy ry rm D cl tys (.ref a :: As) w w0 post mc ms)
    (hg : GoodIn tg (wsV own idx C y (.code y b nLy (some ry) :: tg))) (hyC : y.cls = C) (hcr : CwR R rm nLy mc ms cells slots y n As st0 rest ls nL) (hst : st0 = As.reverse ++ .ref a :: rest) (he : w0[q0]? = some (a, .inr (ci, fs))) (hc : cl[ci]? = some (C, T, N)) (hdg : decode cc pc = .ok (.invokevirtual idx, 3)) :
    RunsR p l e R s m args below meth c H locs cells slots pc ls st0 rest D cl w w0 post mc ms := by
  obtain ⟨hd, hn, hls, hca, hR, hf, hrc, hrs⟩ := hcr
  exact ⟨_, va_runV cx.1 (hM H.size) (cwV n cx.ts hg rfl hrc hrs ⟨hyC, hd⟩ hR) ⟨bz_blind, hw.recv cx he hc, hw.pre cx⟩ rfl hn hls hst (lv_room hca) hdg hf⟩
theorem rV_xi {S : Type} {w : S → va_W} {post : Int32 → S → Prop} {px : String → S → Prop} {a q0 ci : Nat} {C : String} {T : u_T} {N : Nat} {fs : List Value} (cx : Fx p s m args meth c A D cl tys cc nL own ret) (hw : Wd D cl A s H locs w0) (hM : XI l y b nLy ry rm D cl tys (.ref a :: As) w w0 post px mc ms)
    (hg : GoodIn tg (wsV own idx C y (.code y b nLy (some ry) :: tg))) (hyC : y.cls = C) (hcr : CwR R rm nLy mc ms cells slots y n As st0 rest ls nL) (hst : st0 = As.reverse ++ .ref a :: rest) (he : w0[q0]? = some (a, .inr (ci, fs))) (hc : cl[ci]? = some (C, T, N)) (hdg : decode cc pc = .ok (.invokevirtual idx, 3)) :
    RunsXI p l e R s m args below meth c H locs cells slots pc ls st0 rest D cl w w0 post px mc ms := by
  obtain ⟨hd, hn, hls, hca, hR, hf, hrc, hrs⟩ := hcr
  exact ⟨_, vx_runV cx.1 (hM H.size) (cwV n cx.ts hg rfl hrc hrs ⟨hyC, hd⟩ hR) ⟨bz_blind, hw.recv cx he hc, hw.pre cx⟩ rfl hn hls hst (lv_room hca) hdg hf⟩
theorem rS_i {S : Type} {w : S → va_W} {post : Int32 → S → Prop} (cx : Fx p s m args meth c A D cl tys cc nL own ret) (hw : Wd D cl A s H locs w0) (hM : MI l y b nLy ry rm D cl tys As w w0 post mc ms)
    (hg : GoodIn tg (va_wsS own idx y (.code y b nLy (some ry) :: tg))) (hcr : CwR R rm nLy mc ms cells slots y n As st0 rest ls nL) (hst : st0 = As.reverse ++ rest) (hdg : decode cc pc = .ok (.invokestatic idx, 3)) :
    RunsI p l e R s m args below meth c H locs cells slots pc ls st0 rest D cl w w0 post mc ms := by
  obtain ⟨hd, hn, hls, hca, hR, hf, hrc, hrs⟩ := hcr
  exact ⟨_, va_runS cx.1 (hM H.size) (va_cwS n cx.ts hg rfl hrc hrs hd hR) ⟨bz_blind, hw.pre cx⟩ rfl hn hls hst (lv_room hca) hdg hf⟩
theorem rS_xi {S : Type} {w : S → va_W} {post : Int32 → S → Prop} {px : String → S → Prop} (cx : Fx p s m args meth c A D cl tys cc nL own ret) (hw : Wd D cl A s H locs w0) (hM : XI l y b nLy ry rm D cl tys As w w0 post px mc ms)
    (hg : GoodIn tg (va_wsS own idx y (.code y b nLy (some ry) :: tg))) (hcr : CwR R rm nLy mc ms cells slots y n As st0 rest ls nL) (hst : st0 = As.reverse ++ rest) (hdg : decode cc pc = .ok (.invokestatic idx, 3)) :
    RunsXI p l e R s m args below meth c H locs cells slots pc ls st0 rest D cl w w0 post px mc ms := by
  obtain ⟨hd, hn, hls, hca, hR, hf, hrc, hrs⟩ := hcr
  exact ⟨_, vx_runS cx.1 (hM H.size) (va_cwS n cx.ts hg rfl hrc hrs hd hR) ⟨bz_blind, hw.pre cx⟩ rfl hn hls hst (lv_room hca) hdg hf⟩
theorem rI_v {S : Type} {w : S → va_W} {post : S → Prop} {a : Nat} (cx : Fx p s m args meth c A D cl tys cc nL own ret) (hw : Wd D cl A s H locs w0) (hM : MV l y b nLy rm D cl tys (.ref a :: As) w w0 post mc ms)
    (h1 : Cond.methodLink own idx y ∈ tg) (h2 : Cond.instanceMethod y ∈ tg) (h3 : Cond.initialized y.cls ∈ tg) (h5 : Cond.code y b nLy none ∈ tg) (hy : y.name = "<init>") (hcr : CwR R rm nLy mc ms cells slots y n As st0 rest ls nL) (hst : st0 = As.reverse ++ .ref a :: rest) (hdg : decode cc pc = .ok (.invokespecial idx, 3)) :
    RunsV p l e R s m args below meth c H locs cells slots pc ls st0 rest D cl w w0 post mc ms := by
  obtain ⟨hd, hn, hls, hca, hR, hf, hrc, hrs⟩ := hcr
  exact ⟨_, va_runI cx.1 (hM H.size) (cwI n cx.ts (gd_C h5) rfl hrc hrs (cx.ts _ h3) (cx.ts _ h1) (cx.ts _ h2) hy hd hR) ⟨bz_blind, hw.pre cx⟩ rfl hn hls hst (lv_room hca) hdg hf⟩
/-- a constructor of a nest mate -/
theorem rIN_v {S : Type} {w : S → va_W} {post : S → Prop} {a : Nat} {host : String} (cx : Fx p s m args meth c A D cl tys cc nL own ret) (hw : Wd D cl A s H locs w0) (hM : MV l y b nLy rm D cl tys (.ref a :: As) w w0 post mc ms)
    (h1 : Cond.methodLinkNest own idx y host ∈ nw_L) (h2 : Cond.instanceMethod y ∈ tg) (h3 : Cond.initialized y.cls ∈ tg) (h5 : Cond.code y b nLy none ∈ tg) (hy : y.name = "<init>") (hcr : CwR R rm nLy mc ms cells slots y n As st0 rest ls nL) (hst : st0 = As.reverse ++ .ref a :: rest) (hdg : decode cc pc = .ok (.invokespecial idx, 3)) :
    RunsV p l e R s m args below meth c H locs cells slots pc ls st0 rest D cl w w0 post mc ms := by
  obtain ⟨hd, hn, hls, hca, hR, hf, hrc, hrs⟩ := hcr
  exact ⟨_, va_runIN cx.1 (hM H.size) ⟨va_cnB n cx.ts (gd_C h5) rfl hrc hrs (cx.ev.2.2.2.1 _ h1) (cx.ts _ h3) hd hR, hy, cx.ts _ h2⟩ ⟨bz_blind, hw.pre cx⟩ rfl hn hls hst (lv_room hca) hdg hf⟩
/-- a static method of a nest mate -/
theorem rSN_i {S : Type} {w : S → va_W} {post : Int32 → S → Prop} {host : String} (cx : Fx p s m args meth c A D cl tys cc nL own ret) (hw : Wd D cl A s H locs w0) (hM : MI l y b nLy ry rm D cl tys As w w0 post mc ms)
    (h1 : Cond.methodLinkNest own idx y host ∈ nw_L) (h2 : Cond.static y ∈ tg) (h3 : Cond.initialized y.cls ∈ tg) (h5 : Cond.code y b nLy (some ry) ∈ tg) (hcr : CwR R rm nLy mc ms cells slots y n As st0 rest ls nL) (hst : st0 = As.reverse ++ rest) (hdg : decode cc pc = .ok (.invokestatic idx, 3)) :
    RunsI p l e R s m args below meth c H locs cells slots pc ls st0 rest D cl w w0 post mc ms := by
  obtain ⟨hd, hn, hls, hca, hR, hf, hrc, hrs⟩ := hcr
  exact ⟨_, va_runSN cx.1 (hM H.size) ⟨va_cnB n cx.ts (gd_C h5) rfl hrc hrs (cx.ev.2.2.2.1 _ h1) (cx.ts _ h3) hd hR, cx.ts _ h2, trivial⟩ ⟨bz_blind, hw.pre cx⟩ rfl hn hls hst (lv_room hca) hdg hf⟩
end Calls5
