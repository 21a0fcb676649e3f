def nw_L : List Cond := [.methodLinkNest "BakeHouse" 9 ⟨"BakeHouse$Book", "<init>", "()V"⟩ "BakeHouse", .methodLinkNest "BakeHouse" 22 ⟨"BakeHouse$Shelf", "<init>", "()V"⟩ "BakeHouse", .methodLinkNest "BakeHouse$Book" 34 ⟨"BakeHouse", "within", "(III)Z"⟩ "BakeHouse"]
def nw_C : List Cond := [.castable "java/lang/IllegalStateException" "java/lang/IllegalStateException", .castable "java/lang/NegativeArraySizeException" "java/lang/NegativeArraySizeException", .castable "java/lang/NullPointerException" "java/lang/NullPointerException", .castable "java/lang/RuntimeException" "java/lang/Throwable", .castable "java/lang/ArrayIndexOutOfBoundsException" "java/lang/ArrayIndexOutOfBoundsException", .castable "java/lang/ArithmeticException" "java/lang/ArithmeticException", .castable "BakeHouse$Brioche" "BakeHouse$Dough", .castable "BakeHouse$Flat" "BakeHouse$Dough", .castable "BakeHouse$Leavened" "BakeHouse$Dough", .castable "BakeHouse$Levain" "BakeHouse$Dough", .castable "BakeHouse$Rye" "BakeHouse$Dough", .castable "BakeHouse$Sour" "BakeHouse$Dough", .castable "BakeHouse$Sweet" "BakeHouse$Dough", .declares ⟨"java/lang/RuntimeException", "<init>", "()V"⟩, .declares ⟨"java/lang/RuntimeException", "<init>", "(Ljava/lang/String;)V"⟩, .declares ⟨"java/lang/Exception", "<init>", "()V"⟩, .declares ⟨"java/lang/Exception", "<init>", "(Ljava/lang/String;)V"⟩, .declares ⟨"java/lang/Throwable", "<init>", "()V"⟩, .declares ⟨"java/lang/Throwable", "<init>", "(Ljava/lang/String;)V"⟩, .declares ⟨"java/lang/Throwable", "fillInStackTrace", "()Ljava/lang/Throwable;"⟩, .declares ⟨"java/lang/IndexOutOfBoundsException", "<init>", "()V"⟩, .declares ⟨"java/lang/IndexOutOfBoundsException", "<init>", "(Ljava/lang/String;)V"⟩]
theorem nw_Lwarm {s U : State} (hW : s.WarmedH U.vm) : ∀ w ∈ nw_L, va_Nw w s → va_Nw w U := by
  intro w hw
  simp only [nw_L, List.mem_cons, List.not_mem_nil, or_false] at hw
  rcases hw with rfl | rfl | rfl <;> exact va_Nw.warmM hW
theorem nw_Cwarm {s U : State} (hW : s.WarmedH U.vm) : ∀ w ∈ nw_C, va_Nw w s → va_Nw w U := by
  intro w hw
  simp only [nw_C, List.mem_cons, List.not_mem_nil, or_false] at hw
  rcases hw with rfl | rfl | rfl | rfl | rfl | rfl | rfl | rfl | rfl | rfl | rfl | rfl | rfl | rfl | rfl | rfl | rfl | rfl | rfl | rfl | rfl | rfl <;> first | exact va_Nw.warmC hW | exact va_Nw.warmD hW
theorem nw_Lot : ∀ w ∈ nw_L, w.onTables = true := by decide +kernel
theorem nw_Cot : ∀ w ∈ nw_C, w.onTables = true := by decide +kernel
def en (A : Nat → Prop) (U : State) (H : Heap) : Prop := vx_Zq Bundle.tN "UNASSIGNED_STACK" Bundle.steD A U H ∧ vx_Zq Bundle.tN "SUPPRESSED_SENTINEL" Bundle.listD A U H ∧ en_T U ∧ (∀ w ∈ nw_L, va_Nw w U) ∧ (∀ w ∈ nw_C, va_Nw w U) ∧ va_AO "BakeHouse$Shelf" U ∧ va_AO "BakeHouse$Dough" U ∧ va_Nc "java/lang/ArrayIndexOutOfBoundsException" "java/lang/NullPointerException" U
theorem en.warm {A : Nat → Prop} {s U : State} {H : Heap} (hW : s.WarmedH U.vm) (h : en A s H) : en A U H := by
  obtain ⟨h1, h2, h3, h4, h5, h6, h7, h10⟩ := h
  exact ⟨h1.moved hW.alike, h2.moved hW.alike, h3.warm hW, fun w hw => nw_Lwarm hW w hw (h4 w hw), fun w hw => nw_Cwarm hW w hw (h5 w hw), h6.moved hW.alike, h7.moved hW.alike, h10.moved hW.alike⟩
theorem en.same {A : Nat → Prop} {s U : State} {H : Heap} (hv : s.vm = U.vm) (h : en A s H) : en A U H := by
  obtain ⟨h1, h2, h3, h4, h5, h6, h7, h10⟩ := h
  have ha : s.vm.Alike U.vm := by rw [← hv]; exact Vm.Alike.refl _
  exact ⟨h1.moved ha, h2.moved ha, h3.same hv.symm, fun w hw => va_Nw.same (nw_Lot w hw) hv (h4 w hw), fun w hw => va_Nw.same (nw_Cot w hw) hv (h5 w hw), h6.moved ha, h7.moved ha, h10.moved ha⟩
theorem en.kept {A : Nat → Prop} {U : State} {H H1 : Heap} (h : en A U H) (hq : ∀ a : Nat, a < H.size → ¬ A a → H1[a]? = H[a]?) : en A U H1 := by
  obtain ⟨h1, h2, h3, h4, h5, h6, h7, h10⟩ := h
  exact ⟨h1.kept hq, h2.kept hq, h3, h4, h5, h6, h7, h10⟩
theorem en.narrow {A B : Nat → Prop} {U : State} {H : Heap} (h : en A U H) (hAB : ∀ q, B q → A q) : en B U H := by
  obtain ⟨h1, h2, h3, h4, h5, h6, h7, h10⟩ := h
  exact ⟨h1.narrow hAB, h2.narrow hAB, h3, h4, h5, h6, h7, h10⟩
/-! contracts: the world w0 ahead, the world 'w u' behind -/
def bz_pre (D : va_G) (cl : List vw_C) (tys : List (ClassId × FieldType)) (w0 : va_W) (sz : Nat) (U : State) : Prop := U.heap.size = sz ∧ va_P D cl w0 U.heap ∧ va_K D cl tys U ∧ va_D (fun _ => True) w0 ∧ en (va_A w0 sz) U U.heap
def bz_B {S : Type} (D : va_G) (cl : List vw_C) (w : S → va_W) (w0 : va_W) (sz : Nat) (u : S) (t : State) : Prop := va_P D cl (w u) t.heap ∧ va_D (va_A w0 sz) (w u)
def bz_X {S : Type} (D : va_G) (cl : List vw_C) (w : S → va_W) (w0 : va_W) (sz : Nat) (E0 : String → S → Prop) (E : String) (u : S) (t : State) : Prop := E0 E u ∧ va_P D cl (w u) t.heap ∧ va_D (va_A w0 sz) (w u)
/-- returns an int (or a truth value) -/
def MI {S : Type} (l : Launch) (y : MethodName) (b : ByteArray) (nL : Nat) (ret : FieldType) (rm : Room) (D : va_G) (cl : List vw_C) (tys : List (ClassId × FieldType)) (as : List Value) (w : S → va_W) (w0 : va_W) (post : Int32 → S → Prop) (mc ms : Nat) : Prop :=
  ∀ sz, Met l y (.code y b nL (some ret) :: tg) rm (va_Pc as (bz_pre D cl tys w0 sz)) (va_Qi post (bz_B D cl w w0 sz) (va_A w0 sz)) mc ms (va_A w0 sz)
/-- returns nothing -/
def MV {S : Type} (l : Launch) (y : MethodName) (b : ByteArray) (nL : Nat) (rm : Room) (D : va_G) (cl : List vw_C) (tys : List (ClassId × FieldType)) (as : List Value) (w : S → va_W) (w0 : va_W) (post : S → Prop) (mc ms : Nat) : Prop :=
  ∀ sz, Met l y (.code y b nL none :: tg) rm (va_Pc as (bz_pre D cl tys w0 sz)) (va_Qv post (bz_B D cl w w0 sz) (va_A w0 sz)) mc ms (va_A w0 sz)
/-- returns a reference or null -/
def MR {S : Type} (l : Launch) (y : MethodName) (b : ByteArray) (nL : Nat) (ret : FieldType) (rm : Room) (D : va_G) (cl : List vw_C) (tys : List (ClassId × FieldType)) (as : List Value) (w : S → va_W) (w0 : va_W) (post : Option Nat → S → Prop) (mc ms : Nat) : Prop :=
  ∀ sz, Met l y (.code y b nL (some ret) :: tg) rm (va_Pc as (bz_pre D cl tys w0 sz)) (va_Qq post (bz_B D cl w w0 sz) (va_A w0 sz)) mc ms (va_A w0 sz)
/-- returns an int, or throws -/
def XI {S : Type} (l : Launch) (y : MethodName) (b : ByteArray) (nL : Nat) (ret : FieldType) (rm : Room) (D : va_G) (cl : List vw_C) (tys : List (ClassId × FieldType)) (as : List Value) (w : S → va_W) (w0 : va_W) (post : Int32 → S → Prop) (px : String → S → Prop) (mc ms : Nat) : Prop :=
  ∀ sz, vx_Met l y (.code y b nL (some ret) :: tg) rm (va_Pc as (bz_pre D cl tys w0 sz)) (va_Qi post (bz_B D cl w w0 sz) (va_A w0 sz)) (vx_X (fun _ : S => True) (bz_X D cl w w0 sz px) (va_A w0 sz)) mc ms (va_A w0 sz)
/-- returns nothing, or throws -/
def XV {S : Type} (l : Launch) (y : MethodName) (b : ByteArray) (nL : Nat) (rm : Room) (D : va_G) (cl : List vw_C) (tys : List (ClassId × FieldType)) (as : List Value) (w : S → va_W) (w0 : va_W) (post : S → Prop) (px : String → S → Prop) (mc ms : Nat) : Prop :=
  ∀ sz, vx_Met l y (.code y b nL none :: tg) rm (va_Pc as (bz_pre D cl tys w0 sz)) (va_Qv post (bz_B D cl w w0 sz) (va_A w0 sz)) (vx_X (fun _ : S => True) (bz_X D cl w w0 sz px) (va_A w0 sz)) mc ms (va_A w0 sz)
theorem bz_blind {D : va_G} {cl : List vw_C} {tys : List (ClassId × FieldType)} {as : List Value} {w0 : va_W} {sz : Nat} : FrameBlind (va_Pc as (bz_pre D cl tys w0 sz)) := by
  intro a U g mk h
  obtain ⟨h0, h1, h2, h3, h4, h5⟩ := h
  exact ⟨h0, h1, h2, va_K.moved (u := U) (U := U.calling g mk a) (Vm.Alike.refl U.vm) h3, h4, en.same (s := U) rfl h5⟩
/-- what stands fast in a body -/
def Fx (p : Program) (s : State) (m : MethodId) (args : Array Value) (meth : Method) (c : Code) (A : Nat → Prop) (D : va_G) (cl : List vw_C) (tys : List (ClassId × FieldType)) (cc : ByteArray) (nL : Nat) (own : String) (ret : Option FieldType) : Prop :=
  CallFix p m c cc nL s args tg own ∧ meth.sig.returnType = ret ∧ meth.locks = false ∧ va_K D cl tys s ∧ en A s s.heap ∧ ∀ q, s.heap.size ≤ q → A q
/-- what moves: the world in the heap -/
def Wd (D : va_G) (cl : List vw_C) (A : Nat → Prop) (s : State) (H : Heap) (locs : List Loc) (w : va_W) : Prop := va_P D cl w H ∧ va_D A w ∧ va_S A s.heap H locs
section Ctx
variable {p : Program} {l : Launch} {e : Env} {R : Room} {s : State} {m : MethodId} {args : Array Value} {below : List Frame} {meth : Method} {c : Code} {H : Heap} {locs : List Loc} {cells slots : Nat} {Q : State → Prop}
variable {A : Nat → Prop} {D : va_G} {cl : List vw_C} {tys : List (ClassId × FieldType)} {cc : ByteArray} {nL : Nat} {own : String} {ret : Option FieldType} {w0 : va_W}
theorem Fx.x (h : Fx p s m args meth c A D cl tys cc nL own ret) : p.tables.exec = Jvm.exec := h.1.1
theorem Fx.b (h : Fx p s m args meth c A D cl tys cc nL own ret) : c.code = cc := h.1.2.1
theorem Fx.ml (h : Fx p s m args meth c A D cl tys cc nL own ret) : c.maxLocals = nL := h.1.2.2.1
theorem Fx.ow (h : Fx p s m args meth c A D cl tys cc nL own ret) : s.vm.findClass own = some m.cls := h.1.2.2.2.1
theorem Fx.ts (h : Fx p s m args meth c A D cl tys cc nL own ret) : ∀ w ∈ tg, w.before args s = true := h.1.2.2.2.2
theorem Fx.r (h : Fx p s m args meth c A D cl tys cc nL own ret) : meth.sig.returnType = ret := h.2.1
theorem Fx.lk (h : Fx p s m args meth c A D cl tys cc nL own ret) : meth.locks = false := h.2.2.1
theorem Fx.k (h : Fx p s m args meth c A D cl tys cc nL own ret) : va_K D cl tys s := h.2.2.2.1
theorem Fx.ev (h : Fx p s m args meth c A D cl tys cc nL own ret) : en A s s.heap := h.2.2.2.2.1
theorem Fx.a (h : Fx p s m args meth c A D cl tys cc nL own ret) : ∀ q, s.heap.size ≤ q → A q := h.2.2.2.2.2
theorem Wd.free (cx : Fx p s m args meth c A D cl tys cc nL own ret) (hw : Wd D cl A s H locs w0) : ∀ q, va_A w0 H.size q → A q := by
  intro q h
  rcases h with ⟨k, e, h⟩ | h
  · exact hw.2.1.2 k _ h
  · exact cx.a q (Nat.le_trans hw.2.2.1 h)
/-- the premise of a callee over the same world -/
theorem Wd.pre {as : List Value} (cx : Fx p s m args meth c A D cl tys cc nL own ret) (hw : Wd D cl A s H locs w0) : ∀ U : State, U.heap = H → s.WarmedH U.vm → va_Pc as (bz_pre D cl tys w0 H.size) as.toArray U := by
  intro U hU hW
  refine ⟨rfl, by rw [hU], by rw [hU]; exact hw.1, va_K.moved hW.alike cx.k, hw.2.1.weaken (fun _ _ _ _ => trivial), ?_⟩
  rw [hU]
  exact ((cx.ev.kept hw.2.2.2.1).narrow (hw.free cx)).warm hW
/-- the world behind a call, in the caller's view -/
theorem Wd.back {S : Type} {w : S → va_W} {u : S} {t : State} {H1 : Heap} {locs1 : List Loc} (cx : Fx p s m args meth c A D cl tys cc nL own ret) (hw : Wd D cl A s H locs w0) (ht : t.heap = H1) (hB : bz_B D cl w w0 H.size u t) (hS : va_S A s.heap H1 locs1) : Wd D cl A s H1 locs1 (w u) := by
  obtain ⟨h1, h2⟩ := hB
  exact ⟨by rw [← ht]; exact h1, h2.weaken (fun k q _ h => hw.free cx q.1 h), hS⟩
theorem Wd.backX {S : Type} {w : S → va_W} {u : S} {t : State} {H1 : Heap} {locs1 : List Loc} {px : String → S → Prop} {E : String} (cx : Fx p s m args meth c A D cl tys cc nL own ret) (hw : Wd D cl A s H locs w0) (ht : t.heap = H1) (hB : bz_X D cl w w0 H.size px E u t) (hS : va_S A s.heap H1 locs1) : px E u ∧ Wd D cl A s H1 locs1 (w u) := by
  obtain ⟨h0, h1, h2⟩ := hB
  exact ⟨h0, by rw [← ht]; exact h1, h2.weaken (fun k q _ h => hw.free cx q.1 h), hS⟩
end Ctx
