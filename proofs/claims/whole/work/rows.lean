section
-- ===== PART A: goes FIRST, ahead of the names: the tables' words, and 'selects' of the private methods out of them =====
/-- a private method of a class that the tables say can be made, by its rows of tables_1 -/
def lw_okq (q : MethodName × Nat) : Prop := (q.1.cls ≠ "java/lang/invoke/MethodHandle" ∧ q.1.cls ≠ "java/lang/invoke/VarHandle") ∧ Cond.instantiable q.1.cls q.2 ∈ tables_1 ∧ Cond.privateMethod q.1 ∈ tables_1 ∧ Cond.instanceMethod q.1 ∈ tables_1
theorem lw_p0 : lw_okq (⟨"BakeHouse", "knead", "(III)LBakeHouse$Dough;"⟩, 4) := ⟨⟨by decide +kernel, by decide +kernel⟩, List.mem_of_getElem? (i := 25) (by decide +kernel), List.mem_of_getElem? (i := 106) (by decide +kernel), List.mem_of_getElem? (i := 107) (by decide +kernel)⟩
theorem lw_p1 : lw_okq (⟨"BakeHouse", "findShelf", "(I)LBakeHouse$Shelf;"⟩, 4) := ⟨⟨by decide +kernel, by decide +kernel⟩, List.mem_of_getElem? (i := 25) (by decide +kernel), List.mem_of_getElem? (i := 279) (by decide +kernel), List.mem_of_getElem? (i := 280) (by decide +kernel)⟩
theorem lw_p2 : lw_okq (⟨"BakeHouse", "findLoaf", "(I)LBakeHouse$Dough;"⟩, 4) := ⟨⟨by decide +kernel, by decide +kernel⟩, List.mem_of_getElem? (i := 25) (by decide +kernel), List.mem_of_getElem? (i := 295) (by decide +kernel), List.mem_of_getElem? (i := 296) (by decide +kernel)⟩
theorem lw_p3 : lw_okq (⟨"BakeHouse", "bakeShelf", "(LBakeHouse$Shelf;I)I"⟩, 4) := ⟨⟨by decide +kernel, by decide +kernel⟩, List.mem_of_getElem? (i := 25) (by decide +kernel), List.mem_of_getElem? (i := 379) (by decide +kernel), List.mem_of_getElem? (i := 380) (by decide +kernel)⟩
theorem lw_p4 : lw_okq (⟨"java/lang/NullPointerException", "getExtendedNPEMessage", "()Ljava/lang/String;"⟩, 8) := ⟨⟨by decide +kernel, by decide +kernel⟩, List.mem_of_getElem? (i := 451) (by decide +kernel), List.mem_of_getElem? (i := 449) (by decide +kernel), List.mem_of_getElem? (i := 450) (by decide +kernel)⟩
theorem lw_p5 : lw_okq (⟨"java/lang/Throwable", "fillInStackTrace", "(I)Ljava/lang/Throwable;"⟩, 6) := ⟨⟨by decide +kernel, by decide +kernel⟩, List.mem_of_getElem? (i := 460) (by decide +kernel), List.mem_of_getElem? (i := 458) (by decide +kernel), List.mem_of_getElem? (i := 459) (by decide +kernel)⟩
theorem lw_p6 : lw_okq (⟨"BakeHouse", "placesOfLoaf", "(I)I"⟩, 4) := ⟨⟨by decide +kernel, by decide +kernel⟩, List.mem_of_getElem? (i := 25) (by decide +kernel), List.mem_of_getElem? (i := 672) (by decide +kernel), List.mem_of_getElem? (i := 673) (by decide +kernel)⟩
theorem lw_p7 : lw_okq (⟨"BakeHouseModel", "isLoaf", "(I)Z"⟩, 17) := ⟨⟨by decide +kernel, by decide +kernel⟩, List.mem_of_getElem? (i := 756) (by decide +kernel), List.mem_of_getElem? (i := 840) (by decide +kernel), List.mem_of_getElem? (i := 841) (by decide +kernel)⟩
theorem lw_p8 : lw_okq (⟨"BakeHouseModel", "rests", "(II)I"⟩, 17) := ⟨⟨by decide +kernel, by decide +kernel⟩, List.mem_of_getElem? (i := 756) (by decide +kernel), List.mem_of_getElem? (i := 844) (by decide +kernel), List.mem_of_getElem? (i := 845) (by decide +kernel)⟩
theorem lw_p9 : lw_okq (⟨"BakeHouseModel", "ryeRest", "(II)V"⟩, 17) := ⟨⟨by decide +kernel, by decide +kernel⟩, List.mem_of_getElem? (i := 756) (by decide +kernel), List.mem_of_getElem? (i := 848) (by decide +kernel), List.mem_of_getElem? (i := 849) (by decide +kernel)⟩
theorem lw_p10 : lw_okq (⟨"BakeHouseModel", "begin", "(II)V"⟩, 17) := ⟨⟨by decide +kernel, by decide +kernel⟩, List.mem_of_getElem? (i := 756) (by decide +kernel), List.mem_of_getElem? (i := 852) (by decide +kernel), List.mem_of_getElem? (i := 853) (by decide +kernel)⟩
theorem lw_p11 : lw_okq (⟨"BakeHouseModel", "plainRest", "(II)V"⟩, 17) := ⟨⟨by decide +kernel, by decide +kernel⟩, List.mem_of_getElem? (i := 756) (by decide +kernel), List.mem_of_getElem? (i := 856) (by decide +kernel), List.mem_of_getElem? (i := 857) (by decide +kernel)⟩
theorem lw_p12 : lw_okq (⟨"BakeHouseModel", "sourRest", "(II)V"⟩, 17) := ⟨⟨by decide +kernel, by decide +kernel⟩, List.mem_of_getElem? (i := 756) (by decide +kernel), List.mem_of_getElem? (i := 860) (by decide +kernel), List.mem_of_getElem? (i := 861) (by decide +kernel)⟩
theorem lw_p13 : lw_okq (⟨"BakeHouseModel", "folds", "(I)V"⟩, 17) := ⟨⟨by decide +kernel, by decide +kernel⟩, List.mem_of_getElem? (i := 756) (by decide +kernel), List.mem_of_getElem? (i := 868) (by decide +kernel), List.mem_of_getElem? (i := 869) (by decide +kernel)⟩
theorem lw_p14 : lw_okq (⟨"BakeHouseModel", "plainFold", "(I)V"⟩, 17) := ⟨⟨by decide +kernel, by decide +kernel⟩, List.mem_of_getElem? (i := 756) (by decide +kernel), List.mem_of_getElem? (i := 872) (by decide +kernel), List.mem_of_getElem? (i := 873) (by decide +kernel)⟩
theorem lw_p15 : lw_okq (⟨"BakeHouseModel", "lays", "(III)I"⟩, 17) := ⟨⟨by decide +kernel, by decide +kernel⟩, List.mem_of_getElem? (i := 756) (by decide +kernel), List.mem_of_getElem? (i := 880) (by decide +kernel), List.mem_of_getElem? (i := 881) (by decide +kernel)⟩
def lw_privs_1 : List (MethodName × Nat) := [(⟨"BakeHouse", "knead", "(III)LBakeHouse$Dough;"⟩, 4), (⟨"BakeHouse", "findShelf", "(I)LBakeHouse$Shelf;"⟩, 4), (⟨"BakeHouse", "findLoaf", "(I)LBakeHouse$Dough;"⟩, 4), (⟨"BakeHouse", "bakeShelf", "(LBakeHouse$Shelf;I)I"⟩, 4), (⟨"java/lang/NullPointerException", "getExtendedNPEMessage", "()Ljava/lang/String;"⟩, 8), (⟨"java/lang/Throwable", "fillInStackTrace", "(I)Ljava/lang/Throwable;"⟩, 6), (⟨"BakeHouse", "placesOfLoaf", "(I)I"⟩, 4), (⟨"BakeHouseModel", "isLoaf", "(I)Z"⟩, 17), (⟨"BakeHouseModel", "rests", "(II)I"⟩, 17), (⟨"BakeHouseModel", "ryeRest", "(II)V"⟩, 17), (⟨"BakeHouseModel", "begin", "(II)V"⟩, 17), (⟨"BakeHouseModel", "plainRest", "(II)V"⟩, 17), (⟨"BakeHouseModel", "sourRest", "(II)V"⟩, 17), (⟨"BakeHouseModel", "folds", "(I)V"⟩, 17), (⟨"BakeHouseModel", "plainFold", "(I)V"⟩, 17), (⟨"BakeHouseModel", "lays", "(III)I"⟩, 17)]
theorem lw_r1 : ∀ q ∈ lw_privs_1, lw_okq q := List.forall_mem_cons.mpr ⟨lw_p0, List.forall_mem_cons.mpr ⟨lw_p1, List.forall_mem_cons.mpr ⟨lw_p2, List.forall_mem_cons.mpr ⟨lw_p3, List.forall_mem_cons.mpr ⟨lw_p4, List.forall_mem_cons.mpr ⟨lw_p5, List.forall_mem_cons.mpr ⟨lw_p6, List.forall_mem_cons.mpr ⟨lw_p7, List.forall_mem_cons.mpr ⟨lw_p8, List.forall_mem_cons.mpr ⟨lw_p9, List.forall_mem_cons.mpr ⟨lw_p10, List.forall_mem_cons.mpr ⟨lw_p11, List.forall_mem_cons.mpr ⟨lw_p12, List.forall_mem_cons.mpr ⟨lw_p13, List.forall_mem_cons.mpr ⟨lw_p14, List.forall_mem_cons.mpr ⟨lw_p15, fun _ h => absurd h List.not_mem_nil⟩⟩⟩⟩⟩⟩⟩⟩⟩⟩⟩⟩⟩⟩⟩⟩
theorem lw_p16 : lw_okq (⟨"BakeHouseModel", "plainLay", "(III)I"⟩, 17) := ⟨⟨by decide +kernel, by decide +kernel⟩, List.mem_of_getElem? (i := 756) (by decide +kernel), List.mem_of_getElem? (i := 884) (by decide +kernel), List.mem_of_getElem? (i := 885) (by decide +kernel)⟩
theorem lw_p17 : lw_okq (⟨"BakeHouseModel", "bakes", "(II)Z"⟩, 17) := ⟨⟨by decide +kernel, by decide +kernel⟩, List.mem_of_getElem? (i := 756) (by decide +kernel), List.mem_of_getElem? (i := 892) (by decide +kernel), List.mem_of_getElem? (i := 893) (by decide +kernel)⟩
theorem lw_p18 : lw_okq (⟨"BakeHouseModel", "plainBake", "(II)Z"⟩, 17) := ⟨⟨by decide +kernel, by decide +kernel⟩, List.mem_of_getElem? (i := 756) (by decide +kernel), List.mem_of_getElem? (i := 896) (by decide +kernel), List.mem_of_getElem? (i := 897) (by decide +kernel)⟩
theorem lw_p19 : lw_okq (⟨"BakeHouseModel", "worthOf", "(I)I"⟩, 17) := ⟨⟨by decide +kernel, by decide +kernel⟩, List.mem_of_getElem? (i := 756) (by decide +kernel), List.mem_of_getElem? (i := 904) (by decide +kernel), List.mem_of_getElem? (i := 905) (by decide +kernel)⟩
theorem lw_p20 : lw_okq (⟨"BakeHouseModel", "plainWorth", "(I)I"⟩, 17) := ⟨⟨by decide +kernel, by decide +kernel⟩, List.mem_of_getElem? (i := 756) (by decide +kernel), List.mem_of_getElem? (i := 908) (by decide +kernel), List.mem_of_getElem? (i := 909) (by decide +kernel)⟩
theorem lw_p21 : lw_okq (⟨"BakeHouseModel", "isSold", "(I)Z"⟩, 17) := ⟨⟨by decide +kernel, by decide +kernel⟩, List.mem_of_getElem? (i := 756) (by decide +kernel), List.mem_of_getElem? (i := 916) (by decide +kernel), List.mem_of_getElem? (i := 917) (by decide +kernel)⟩
theorem lw_p22 : lw_okq (⟨"BakeHouseModel", "costOf", "(I)I"⟩, 17) := ⟨⟨by decide +kernel, by decide +kernel⟩, List.mem_of_getElem? (i := 756) (by decide +kernel), List.mem_of_getElem? (i := 920) (by decide +kernel), List.mem_of_getElem? (i := 921) (by decide +kernel)⟩
def lw_privs_2 : List (MethodName × Nat) := [(⟨"BakeHouseModel", "plainLay", "(III)I"⟩, 17), (⟨"BakeHouseModel", "bakes", "(II)Z"⟩, 17), (⟨"BakeHouseModel", "plainBake", "(II)Z"⟩, 17), (⟨"BakeHouseModel", "worthOf", "(I)I"⟩, 17), (⟨"BakeHouseModel", "plainWorth", "(I)I"⟩, 17), (⟨"BakeHouseModel", "isSold", "(I)Z"⟩, 17), (⟨"BakeHouseModel", "costOf", "(I)I"⟩, 17)]
theorem lw_r2 : ∀ q ∈ lw_privs_2, lw_okq q := List.forall_mem_cons.mpr ⟨lw_p16, List.forall_mem_cons.mpr ⟨lw_p17, List.forall_mem_cons.mpr ⟨lw_p18, List.forall_mem_cons.mpr ⟨lw_p19, List.forall_mem_cons.mpr ⟨lw_p20, List.forall_mem_cons.mpr ⟨lw_p21, List.forall_mem_cons.mpr ⟨lw_p22, fun _ h => absurd h List.not_mem_nil⟩⟩⟩⟩⟩⟩⟩
def lw_privs : List (MethodName × Nat) := lw_privs_1 ++ (lw_privs_2)
def lw_tbl : List Cond := k2_sels lw_privs ++ tables_1
theorem lw_privs_ok : ∀ q ∈ lw_privs, lw_okq q := by
  show ∀ q ∈ lw_privs_1 ++ (lw_privs_2), lw_okq q
  exact List.forall_mem_append.mpr ⟨lw_r1, lw_r2⟩
-- ===== end of PART A; then your names; then what follows =====
end
section
/-! ===== BEGIN words of one list among another's, by their places ===== -/
theorem goodIn_r {big : List Cond} (ws : List Cond) (ps : List Nat) (hp : ws = ps.filterMap (fun i => big[i]?)) (h : ws.all goodWord = true) : GoodIn big ws := by
  intro w hw
  have h1 := List.all_eq_true.mp h w hw
  rw [hp] at hw
  obtain ⟨i, -, hi⟩ := List.mem_filterMap.mp hw
  have hm : w ∈ big := by first | exact List.mem_of_getElem? hi | exact List.getElem?_mem hi
  exact ⟨hm, good_of_word h1⟩
theorem goodIn_app {big a b : List Cond} (ha : GoodIn big a) (hb : GoodIn big b) : GoodIn big (a ++ b) := fun w h => (List.mem_append.mp h).elim (ha w) (hb w)
theorem goodIn_ca {big a b : List Cond} {c : Cond} (ha : GoodIn big (c :: a)) (hb : GoodIn big b) : GoodIn big (c :: (a ++ b)) := fun w h => (List.mem_cons.mp h).elim (fun e => ha w (List.mem_cons.mpr (Or.inl e))) (fun h => (List.mem_append.mp h).elim (fun h => ha w (List.mem_cons.mpr (Or.inr h))) (hb w))
theorem goodIn_sub {big ws : List Cond} (hm : ∀ w ∈ ws, w ∈ big) (h : ws.all goodWord = true) : GoodIn big ws := fun w hw => ⟨hm w hw, good_of_word (List.all_eq_true.mp h w hw)⟩
/-! ===== END ===== -/

/-! ===== BEGIN exceptions that leave a method, and their catching by the caller (launches without stack traces) ===== -/
section VXA
/-! The laws vx_back, vx_callV, vx_callS, vx_callSW, vx_throw0, vx_throwS follow proofs of the library, with one case more: JvmDerived/Free/Laws.lean (Back.of_free), Shelf42/LK1.lean (callV, callS), Shelf/KitTraced.lean (throwNew0V, throwNewS). -/
/-- where a method has thrown q: the class by its name, the cell, what was written, the world -/
def vx_T (XC : String → State → State → Prop) (st : State) (q : Addr) (t : State) (mc ms : Nat) (free : Addr → Prop) : Prop :=
  ∃ (E : String) (ce : Cell) (L : List Loc), XC E st t ∧ t.heap[q]? = some ce ∧ ce.vm = .none ∧ st.vm.findClass E = some ce.cls ∧ st.WarmedH t.vm ∧ st.sameButNew ({ t with vm := st.vm } : State) L mc ms ∧ ∀ z ∈ L, free z.base
def vx_Q (Qc : Array Value → State → Outcome → State → Prop) (XC : String → State → State → Prop) (mc ms : Nat) (free : Addr → Prop) : Array Value → State → Outcome → State → Prop := fun a st o t =>
  (Qc a st o t ∧ ∃ L, FrameEnd st o t L mc ms ∧ ∀ q ∈ L, free q.base) ∨ ∃ q, o = .threw q ∧ vx_T XC st q t mc ms free
/-- a callee that returns or throws -/
def vx_Met (l : Launch) (y : MethodName) (ws : List Cond) (rm : Room) (Pc : Array Value → State → Prop) (Qc : Array Value → State → Outcome → State → Prop) (XC : String → State → State → Prop) (mc ms : Nat) (free : Addr → Prop) : Prop :=
  MetFree l y (headSpec ws rm) Pc (fun _ _ _ _ _ => True) (vx_Q Qc XC mc ms free)
def vx_Post (XC : String → State → State → Prop) (mc ms : Nat) (free : Addr → Prop) : Pt → Array Value → Addr → Pt → Prop := fun A a q B =>
  ∃ (g : JFrame) (mk : MethodId) (t : State) (L : List Loc) (E : String) (ce : Cell), B.U.heap = t.heap ∧ B.U.vm = t.vm ∧ XC E (A.U.calling g mk a) t ∧ t.heap[q]? = some ce ∧ ce.vm = .none ∧ A.U.vm.findClass E = some ce.cls ∧ B.locs = A.locs ++ L ∧ (∀ z ∈ L, free z.base) ∧ B.cells = A.cells + mc ∧ B.slots = A.slots + ms
def vx_Back (l : Launch) (R : Room) (p : Program) (e : Env) (below : List Frame) (s : State) (sargs : Array Value) (y : MethodName) (len W9 : Nat)
    (Pre : Pt → Array Value → Prop) (Post : Pt → Array Value → Option Value → Pt → Prop) (PostX : Pt → Array Value → Addr → Pt → Prop) : Prop :=
  ∀ (m : MethodId) (meth : Method) (c : Code) (A : Pt) (g : JFrame) (ig : Instr) (mk : MethodId) (a : Array Value),
    Stand p l e R s m sargs below meth c A.U A.locs A.cells A.slots → g.method = m → g.locals.size = c.maxLocals → decode c.code g.pc = .ok (ig, len) →
    2 * g.monitorRoom + (g.stack.map fun v => v.category).sum ≤ W9 → A.U.methodNamed? y = some mk → Pre A a →
    (∃ (v : Option Value) (B : Pt), Stand p l e R s m sargs below meth c B.U B.locs B.cells B.slots ∧ Post A a v B ∧
      Steps p.tables e below (doInvoke e (A.U.setTop g) [] mk a).1 (B.U.setTop { g with pc := g.pc + len, stack := v.toList ++ g.stack })) ∨
    (∃ (q : Addr) (B : Pt), Stand p l e R s m sargs below meth c B.U B.locs B.cells B.slots ∧ PostX A a q B ∧
      Steps p.tables e below (doInvoke e (A.U.setTop g) [] mk a).1 ((B.U.setTop g).pushFrame (.throwing q)))
section Payer
variable {l : Launch} {R : Room} {p : Program} {e : Env} {below : List Frame} {s : State} {sargs : Array Value} {y : MethodName} {len W9 : Nat}
theorem vx_back {ws : List Cond} {rm : Room} {Pc : Array Value → State → Prop} {Qc : Array Value → State → Outcome → State → Prop} {XC : String → State → State → Prop} {mc ms : Nat} {free : Addr → Prop} {bytes : ByteArray} {maxL : Nat} {ret : Option FieldType}
    (hM : vx_Met l y ws rm Pc Qc XC mc ms free) (hblind : FrameBlind Pc) (hrc : rm.cells = mc) (hrs : rm.slots = ms)
    (hframes : rm.frames + 1 ≤ R.frames) (hlocals : W9 + (maxL + 11) + rm.locals ≤ R.locals)
    (hws : ∀ w ∈ ws, ∀ a' U, s.WarmedH U.vm → w.before a' U = true) (hcode : Cond.code y bytes maxL ret ∈ ws) (hinit : ∀ a' U, s.WarmedH U.vm → (Cond.initialized y.cls).before a' U = true) :
    vx_Back l R p e below s sargs y len W9 (PreOf R mc ms Pc) (PostOf Qc mc ms free) (vx_Post XC mc ms free) := by
  intro m meth c A g ig mk a X hg hsize hdg hW hn hp
  have h1 : (headSpec ws rm).pre.before a A.U = true := atoms_intro fun w hw => hws w hw _ _ X.warmed
  have h2 : (Cond.code y bytes maxL ret).before a A.U = true := hws _ hcode _ _ X.warmed
  have h3 : (Cond.initialized y.cls).before a A.U = true := hinit _ _ X.warmed
  have h4 : A.cells + (headSpec ws rm).room.cells ≤ R.cells := by rw [show (headSpec ws rm).room.cells = mc from hrc]; exact hp.1
  have h5 : A.slots + (headSpec ws rm).room.slots ≤ R.slots := by rw [show (headSpec ws rm).room.slots = ms from hrs]; exact hp.2.1
  have hPc : Pc a (A.U.calling g mk a) := hblind _ _ _ _ hp.2.2
  obtain ⟨U, Ls, c0, s0⟩ := A
  dsimp only [Pt.U, Pt.locs, Pt.cells, Pt.slots] at h1 h2 h3 h4 h5 X hn hPc ⊢
  obtain ⟨methY, cY, hmY, hcY, -, hlY, -, -, -, -⟩ := Cond.code_spec hn h2
  obtain ⟨kY, hkY, -⟩ := className_of_methodNamed hn
  have hinitY : kY.init = .initialized := Cond.initialized_spec (findClass_of_methodNamed hn) hkY h3
  have h : At U g.method c below := by rw [hg]; exact X.here
  have hlocals9 : W9 + (maxL + 11) + (headSpec ws rm).room.locals ≤ R.locals := hlocals
  have happ : (headSpec ws rm).appliesLoose y e.platform (U.calling g mk a) = true :=
    Spec.appliesLoose_calling (g := g) h hdg hn hkY hinitY
      (X.room_calling (g := g) (R' := (headSpec ws rm).room) hsize hmY hcY hframes (by rw [hlY]; omega) h4 h5) h1
  obtain ⟨mid, hmid⟩ := h.above
  have hfr : (U.setTop g).frames = (.java g :: mid) ++ below := by rw [State.frames_setTop' g h.top, hmid]; rfl
  obtain ⟨o, s₂, hsteps, -, hend, hq⟩ := Steps.callFree hM p X.admits X.cas X.clock (acts := []) hfr happ hPc trivial
  have hq' : vx_Q Qc XC mc ms free a (U.calling g mk a) o s₂ := hq
  rw [State.frames_setTop' g h.top] at hend
  obtain ⟨g₀, hg0⟩ := Option.isSome_iff_exists.mp h.top
  obtain ⟨r, hr⟩ := State.topJava?_eq_some.mp hg0
  have hr' : (({ U with heap := s₂.heap, slotsUsed := s₂.slotsUsed } : State).setVm s₂.vm).frames = .java g₀ :: r := hr
  rcases hq' with ⟨hqc, L, hfe, hL⟩ | ⟨q, rfl, E, ce, L, hx, hce, hcv, hcl, hW₂, hsm, hL⟩
  · obtain ⟨⟨v, rfl⟩, hW₂, e2, q2, q3, q4, q5, q6⟩ := id hfe
    have e3 : s₂ = ({ (U.calling g mk a).setFrames s₂.frames with heap := s₂.heap, slotsUsed := s₂.slotsUsed } : State).setVm s₂.vm := by
      have : s₂ = ({ s₂ with vm := (U.calling g mk a).vm } : State).setVm s₂.vm := rfl
      rw [e2] at this
      exact this
    obtain ⟨c₂, i₂, len₂, hc₂, hd₂, hf₂⟩ := hend
    have hW' : U.WarmedH s₂.vm := hW₂
    have hcc : c₂ = c := by
      have h1 : s₂.code? g.method = U.code? g.method := by
        rw [State.code?_eq, State.code?_eq, hW'.alike.method?]
      exact Option.some.inj (hc₂.symm.trans (h1.trans h.code))
    subst hcc
    have hlen : len₂ = len := by rw [hdg] at hd₂; cases hd₂; rfl
    subst hlen
    have hs₂ : s₂ = (({ U with heap := s₂.heap, slotsUsed := s₂.slotsUsed } : State).setVm s₂.vm).setTop { g with pc := g.pc + len₂, stack := v.toList ++ g.stack } := by
      refine e3.trans ?_
      rw [hf₂, State.calling_eq h.top, State.setFrames_setFrames, State.setTop_of_frames _ hr', hr]
      rfl
    have hsame : U.sameButNew ({ U with heap := s₂.heap, slotsUsed := s₂.slotsUsed } : State) L mc ms := by
      refine ⟨?_, q2, q3, q4, q5, q6⟩
      obtain ⟨t, ht, -⟩ := State.frames_cons hr
      show ({ U with heap := s₂.heap, slotsUsed := s₂.slotsUsed } : State) = { U.setFrames U.frames with heap := s₂.heap, slotsUsed := s₂.slotsUsed }
      rw [State.setFrames_self ht]
    subst hg
    refine Or.inl ⟨v, ⟨(({ U with heap := s₂.heap, slotsUsed := s₂.slotsUsed } : State).setVm s₂.vm), Ls ++ L, c0 + mc, s0 + ms⟩,
      ⟨X.admits, X.cas, X.clock, X.frames, X.room, X.hears, X.method, X.code, (X.here.setHeapUsed s₂.heap s₂.slotsUsed).setVm hW'.alike, X.tail, State.WarmedH.trans X.warmed hW', X.limits, X.bytes, X.same.trans (hsame.setVm s.vm)⟩,
      ⟨g, mk, s₂, L, rfl, rfl, hqc, rfl, hL, rfl, rfl⟩, ?_⟩
    show Steps p.tables e below _ ((({ U with heap := s₂.heap, slotsUsed := s₂.slotsUsed } : State).setVm s₂.vm).setTop { g with pc := g.pc + len₂, stack := v.toList ++ g.stack })
    rw [← hs₂]
    exact hsteps
  · obtain ⟨e2, q2, q3, q4, q5, q6⟩ := id hsm
    have e3 : s₂ = ({ (U.calling g mk a).setFrames s₂.frames with heap := s₂.heap, slotsUsed := s₂.slotsUsed } : State).setVm s₂.vm := by
      have : s₂ = ({ s₂ with vm := (U.calling g mk a).vm } : State).setVm s₂.vm := rfl
      rw [e2] at this
      exact this
    have hf₂ : s₂.frames = .throwing q :: .java g :: U.frames.tail := hend
    have hW' : U.WarmedH s₂.vm := hW₂
    have hs₂ : s₂ = ((({ U with heap := s₂.heap, slotsUsed := s₂.slotsUsed } : State).setVm s₂.vm).setTop g).pushFrame (.throwing q) := by
      refine e3.trans ?_
      rw [hf₂, State.calling_eq h.top, State.setFrames_setFrames, State.pushFrame, State.frames_setTop _ hr', State.setTop_of_frames _ hr', State.setFrames_setFrames, hr]
      rfl
    have hsame : U.sameButNew ({ U with heap := s₂.heap, slotsUsed := s₂.slotsUsed } : State) L mc ms := by
      refine ⟨?_, q2, q3, q4, q5, q6⟩
      obtain ⟨t, ht, -⟩ := State.frames_cons hr
      show ({ U with heap := s₂.heap, slotsUsed := s₂.slotsUsed } : State) = { U.setFrames U.frames with heap := s₂.heap, slotsUsed := s₂.slotsUsed }
      rw [State.setFrames_self ht]
    subst hg
    refine Or.inr ⟨q, ⟨(({ U with heap := s₂.heap, slotsUsed := s₂.slotsUsed } : State).setVm s₂.vm), Ls ++ L, c0 + mc, s0 + ms⟩,
      ⟨X.admits, X.cas, X.clock, X.frames, X.room, X.hears, X.method, X.code, (X.here.setHeapUsed s₂.heap s₂.slotsUsed).setVm hW'.alike, X.tail, State.WarmedH.trans X.warmed hW', X.limits, X.bytes, X.same.trans (hsame.setVm s.vm)⟩,
      ⟨g, mk, s₂, L, E, ce, rfl, rfl, hx, hce, hcv, hcl, rfl, hL, rfl, rfl⟩, ?_⟩
    show Steps p.tables e below _ (((({ U with heap := s₂.heap, slotsUsed := s₂.slotsUsed } : State).setVm s₂.vm).setTop g).pushFrame (.throwing q))
    rw [← hs₂]
    exact hsteps
end Payer
section Calls
variable {p : Program} {l : Launch} {e : Env} {R : Room} {s : State} {m : MethodId} {args : Array Value} {below : List Frame} {meth : Method} {c : Code} {T : State} {locs : List Loc} {cells slots : Nat}
theorem vx_callV (X : Stand p l e R s m args below meth c T locs cells slots) (hexec : p.tables.exec = Jvm.exec) {own C : String} {index : Nat} {y : MethodName} {bytes : ByteArray} {maxL : Nat} {ret : Option FieldType}
    (hown : s.vm.findClass own = some m.cls) (hlink : (Cond.methodLink own index y).before args s = true) (hinst : (Cond.instanceMethod y).before args s = true) (hsel : (Cond.selects C y y).before args s = true)
    (hcode : (Cond.code y bytes maxL ret).before args s = true) (hy : y.cls ≠ "java/lang/invoke/MethodHandle" ∧ y.cls ≠ "java/lang/invoke/VarHandle")
    {W9 : Nat} {Pre : Pt → Array Value → Prop} {Post : Pt → Array Value → Option Value → Pt → Prop} {PostX : Pt → Array Value → Addr → Pt → Prop} (hK : vx_Back l R p e below s args y 3 W9 Pre Post PostX)
    {b : Addr} {cellB : Cell} (hcell : T.heap[b]? = some cellB) (hobj : cellB.vm.isStatics = false) (hcls : s.vm.findClass C = some cellB.cls)
    {g : JFrame} (hg : g.method = m) (hsize : g.locals.size = c.maxLocals) {argsL rest : List Value} (hlen : ∀ sig, parseMethodDescriptor y.desc = some sig → argsL.length = sig.parameters.length)
    (hstack : g.stack = argsL.reverse ++ .ref b :: rest) (hW : 2 * g.monitorRoom + (rest.map fun v => v.category).sum ≤ W9) (hdg : decode c.code g.pc = .ok (.invokevirtual index, 3))
    (hpre : ∀ vm₁, s.WarmedH vm₁ → Pre ⟨T.setVm vm₁, locs, cells, slots⟩ (Value.ref b :: argsL).toArray) :
    (∃ (v : Option Value) (vm₁ : Vm) (B : Pt), s.WarmedH vm₁ ∧ Stand p l e R s m args below meth c B.U B.locs B.cells B.slots ∧ Post ⟨T.setVm vm₁, locs, cells, slots⟩ (Value.ref b :: argsL).toArray v B ∧
      ∀ target, Steps p.tables e below (B.U.setTop { g with pc := g.pc + 3, stack := v.toList ++ rest }) target → Steps p.tables e below (T.setTop g) target) ∨
    (∃ (q : Addr) (vm₁ : Vm) (B : Pt), s.WarmedH vm₁ ∧ Stand p l e R s m args below meth c B.U B.locs B.cells B.slots ∧ PostX ⟨T.setVm vm₁, locs, cells, slots⟩ (Value.ref b :: argsL).toArray q B ∧
      Steps p.tables e below (T.setTop g) ((B.U.setTop { g with stack := rest }).pushFrame (.throwing q))) := by
  obtain ⟨mk, methM, hnamed, hmethM, hstM, habM⟩ := Cond.instanceMethod_spec hinst
  obtain ⟨methM', cM, hmethM', -, -, -, -, -, -, hsigM⟩ := Cond.code_spec hnamed hcode
  cases hmethM.symm.trans hmethM'
  obtain ⟨c2, r2, m2, q1, q2, q3, q4, kP, hkP, hkPi⟩ := Cond.selects_spec hsel
  cases hcls.symm.trans q1
  cases (State.methodFound?_of_named hnamed hy).symm.trans q2
  cases hnamed.symm.trans q3
  have hselP : selectMethod e.platform s.vm cellB.cls mk = .method mk := by rw [Launch.admits_selectMethod X.admits]; exact q4
  obtain ⟨vm₁, X₁, hstep₁⟩ := X.invokevirtual hexec hown hlink hnamed hmethM hstM hkP hkPi hy (a := b) (cell := cellB) hcell
    (fun z h => by rw [h] at hobj; cases hobj) hselP hmethM habM hkP hkPi (g := g) hg (argsL := argsL) (rest := rest) (hlen _ hsigM) hstack hdg
  rcases hK m meth c ⟨T.setVm vm₁, locs, cells, slots⟩ { g with stack := rest } (.invokevirtual index) mk (Value.ref b :: argsL).toArray X₁ hg hsize hdg hW (X₁.named hnamed) (hpre vm₁ X₁.warmed) with ⟨v, B, X', hpost, hsteps⟩ | ⟨q, B, X', hpost, hsteps⟩
  · exact Or.inl ⟨v, vm₁, B, X₁.warmed, X', hpost, fun target h => hstep₁ _ fun acts => by rw [doInvoke_state]; exact hsteps.trans h⟩
  · exact Or.inr ⟨q, vm₁, B, X₁.warmed, X', hpost, hstep₁ _ fun acts => by rw [doInvoke_state]; exact hsteps⟩
theorem vx_callS (X : Stand p l e R s m args below meth c T locs cells slots) (hexec : p.tables.exec = Jvm.exec) {own : String} {index : Nat} {y : MethodName} {bytes : ByteArray} {maxL : Nat} {ret : Option FieldType}
    (hown : s.vm.findClass own = some m.cls) (hlink : (Cond.methodLink own index y).before args s = true) (hstat : (Cond.static y).before args s = true) (hinit : (Cond.initialized y.cls).before args s = true)
    (hcode : (Cond.code y bytes maxL ret).before args s = true) (hy : y.cls ≠ "java/lang/invoke/MethodHandle" ∧ y.cls ≠ "java/lang/invoke/VarHandle")
    {W9 : Nat} {Pre : Pt → Array Value → Prop} {Post : Pt → Array Value → Option Value → Pt → Prop} {PostX : Pt → Array Value → Addr → Pt → Prop} (hK : vx_Back l R p e below s args y 3 W9 Pre Post PostX)
    {g : JFrame} (hg : g.method = m) (hsize : g.locals.size = c.maxLocals) {argsL rest : List Value} (hlen : ∀ sig, parseMethodDescriptor y.desc = some sig → argsL.length = sig.parameters.length)
    (hstack : g.stack = argsL.reverse ++ rest) (hW : 2 * g.monitorRoom + (rest.map fun v => v.category).sum ≤ W9) (hdg : decode c.code g.pc = .ok (.invokestatic index, 3))
    (hpre : ∀ vm₁, s.WarmedH vm₁ → Pre ⟨T.setVm vm₁, locs, cells, slots⟩ argsL.toArray) :
    (∃ (v : Option Value) (vm₁ : Vm) (B : Pt), s.WarmedH vm₁ ∧ Stand p l e R s m args below meth c B.U B.locs B.cells B.slots ∧ Post ⟨T.setVm vm₁, locs, cells, slots⟩ argsL.toArray v B ∧
      ∀ target, Steps p.tables e below (B.U.setTop { g with pc := g.pc + 3, stack := v.toList ++ rest }) target → Steps p.tables e below (T.setTop g) target) ∨
    (∃ (q : Addr) (vm₁ : Vm) (B : Pt), s.WarmedH vm₁ ∧ Stand p l e R s m args below meth c B.U B.locs B.cells B.slots ∧ PostX ⟨T.setVm vm₁, locs, cells, slots⟩ argsL.toArray q B ∧
      Steps p.tables e below (T.setTop g) ((B.U.setTop { g with stack := rest }).pushFrame (.throwing q))) := by
  obtain ⟨mk, hnamed⟩ := Cond.code_named hcode
  obtain ⟨methM, cM, hmethM, -, -, -, -, -, -, hsigM⟩ := Cond.code_spec hnamed hcode
  have hstatic : methM.isStatic = true := Cond.static_spec hnamed hmethM hstat
  obtain ⟨kP, hkP, -⟩ := className_of_methodNamed hnamed
  have hinitP : kP.init = .initialized := Cond.initialized_spec (findClass_of_methodNamed hnamed) hkP hinit
  obtain ⟨vm₁, X₁, hstep₁⟩ := X.invokestatic hexec hown hlink hnamed hmethM hstatic hkP hinitP hy (g := g) hg (argsL := argsL) (rest := rest) (hlen _ hsigM) hstack hdg
  rcases hK m meth c ⟨T.setVm vm₁, locs, cells, slots⟩ { g with stack := rest } (.invokestatic index) mk argsL.toArray X₁ hg hsize hdg hW (X₁.named hnamed) (hpre vm₁ X₁.warmed) with ⟨v, B, X', hpost, hsteps⟩ | ⟨q, B, X', hpost, hsteps⟩
  · exact Or.inl ⟨v, vm₁, B, X₁.warmed, X', hpost, fun target h => hstep₁ _ fun acts => by rw [doInvoke_state]; exact hsteps.trans h⟩
  · exact Or.inr ⟨q, vm₁, B, X₁.warmed, X', hpost, hstep₁ _ fun acts => by rw [doInvoke_state]; exact hsteps⟩
end Calls
theorem vx_cls {s : State} {T : State} {vm₁ : Vm} {E : String} {k : ClassId} (hW : s.WarmedH vm₁) (h : (T.setVm vm₁).vm.findClass E = some k) : s.vm.findClass E = some k := by
  have h1 : vm₁.findClass E = some k := h
  rw [hW.alike.findClass] at h1
  exact h1
/-- the method's frame g, with q thrown over it -/
def vx_W (p : Program) (l : Launch) (e : Env) (R : Room) (s : State) (m : MethodId) (args : Array Value) (below : List Frame) (meth : Method) (c : Code) (H : Heap) (locs : List Loc) (cells slots : Nat) (Q : State → Prop) (g : JFrame) (q : Addr) : Prop :=
  ∀ T : State, T.heap = H → Stand p l e R s m args below meth c T locs cells slots → ∃ t, Steps p.tables e below ((T.setTop g).pushFrame (.throwing q)) t ∧ Q t
def vx_Run (p : Program) (l : Launch) (e : Env) (R : Room) (s : State) (m : MethodId) (args : Array Value) (below : List Frame) (meth : Method) (c : Code) (H : Heap) (locs : List Loc) (cells slots mc ms : Nat) (g : JFrame) (rest : List Value) (Qa : State → Outcome → State → Prop) (XC : String → State → State → Prop) (free : Addr → Prop) : Prop :=
  ∀ T : State, T.heap = H → Stand p l e R s m args below meth c T locs cells slots →
    (∃ (v : Option Value) (st₀ t T' : State) (L : List Loc), st₀.heap = H ∧ Stand p l e R s m args below meth c T' (locs ++ L) (cells + mc) (slots + ms) ∧ (∀ q ∈ L, free q.base) ∧ T'.heap = t.heap ∧ T'.vm = t.vm ∧ Qa st₀ (.returned v) t ∧
      Goes p e below T g T' { g with pc := g.pc + 3, stack := v.toList ++ rest }) ∨
    (∃ (q : Addr) (st₀ t T' : State) (L : List Loc) (E : String) (ce : Cell), st₀.heap = H ∧ Stand p l e R s m args below meth c T' (locs ++ L) (cells + mc) (slots + ms) ∧ (∀ z ∈ L, free z.base) ∧ T'.heap = t.heap ∧ T'.vm = t.vm ∧ XC E st₀ t ∧ t.heap[q]? = some ce ∧ ce.vm = .none ∧ s.vm.findClass E = some ce.cls ∧
      Steps p.tables e below (T.setTop g) ((T'.setTop { g with stack := rest }).pushFrame (.throwing q)))
def vx_X {S : Type} (px : S → Prop) (B : String → S → State → Prop) (A : Nat → Prop) : String → State → State → Prop := fun E st t => ∃ u : S, px u ∧ B E u t ∧ va_F A st t
section Runs
variable {p : Program} {l : Launch} {e : Env} {R : Room} {s : State} {m : MethodId} {args : Array Value} {below : List Frame} {meth : Method} {c : Code} {H : Heap} {locs : List Loc} {cells slots : Nat}
variable {y : MethodName} {bytes cc : ByteArray} {maxL nL mc ms n index : Nat} {ret : Option FieldType} {ws : List Cond} {rm : Room} {Pc : Array Value → State → Prop} {Qc : Array Value → State → Outcome → State → Prop} {XC : String → State → State → Prop} {free : Addr → Prop} {Ts : List Cond} {own C : String} {b : Addr} {As rest : List Value} {g : JFrame}
theorem vx_callBack (cb : CallB R s args own index y bytes maxL ret ws rm mc ms n) (hM : vx_Met l y ws rm Pc Qc XC mc ms free) (hbl : FrameBlind Pc) : vx_Back l R p e below s args y 3 8 (PreOf R mc ms Pc) (PostOf Qc mc ms free) (vx_Post XC mc ms free) := by
  obtain ⟨hrc, hrs, hfr, hlo, hws, hcw, -, hini, -⟩ := cb
  exact vx_back (bytes := bytes) (maxL := maxL) (ret := ret) hM hbl hrc hrs hfr hlo hws hcw (fun a' U hW => word_at hW (Or.inl (by first | rfl | simp [Cond.onTables, Cond.keeps, Cond.steady])) hini)
theorem vx_runV (S : CallFix p m c cc nL s args Ts own) (hM : vx_Met l y ws rm Pc Qc XC mc ms free) (cw : CallW R s args own C index y bytes maxL ret ws rm mc ms n) (hp : PreV s H C b Pc As)
    (hg : g.method = m) (hn : As.length = n) (hsize : g.locals.size = nL) (hstack : g.stack = As.reverse ++ .ref b :: rest) (hW : 2 * g.monitorRoom + (rest.map fun v => v.category).sum ≤ 8) (hdg : decode cc g.pc = .ok (.invokevirtual index, 3)) (hf : cells + mc ≤ R.cells ∧ slots + ms ≤ R.slots) :
    vx_Run p l e R s m args below meth c H locs cells slots mc ms g rest (Qc (Value.ref b :: As).toArray) XC free := by
  have hK : vx_Back l R p e below s args y 3 8 (PreOf R mc ms Pc) (PostOf Qc mc ms free) (vx_Post XC mc ms free) := vx_callBack cw.1 hM hp.1
  obtain ⟨⟨-, -, -, -, -, -, hcode, -, hy, hlen, hl⟩, hin, hse⟩ := cw
  obtain ⟨hx, hb, hml, ho, -⟩ := S
  obtain ⟨-, ⟨cellB, hcB, hoB, hclB⟩, hPc⟩ := hp
  intro T hT X
  rcases vx_callV X hx (C := C) (bytes := bytes) (maxL := maxL) (ret := ret) ho hl hin hse hcode hy hK (by rw [hT]; exact hcB) hoB hclB hg (hsize.trans hml.symm) (argsL := As) (rest := rest) (fun sig h => hn.trans (hlen sig h)) hstack hW (by rw [hb]; exact hdg)
    (fun vm₁ hW₁ => ⟨hf.1, hf.2, hPc (T.setVm vm₁) hT hW₁⟩) with ⟨v, vm₁, ⟨U', l2, c2, s2⟩, hW₁, X', ⟨g', mk, t, L, e1, e2, hq, h1, hL, h2, h3⟩, st⟩ | ⟨q, vm₁, ⟨U', l2, c2, s2⟩, hW₁, X', ⟨g', mk, t, L, E, ce, e1, e2, hq, hce, hcv, hcl, h1, hL, h2, h3⟩, st⟩
  · dsimp only [Pt.U, Pt.locs, Pt.cells, Pt.slots] at X' e1 e2 h1 h2 h3 st
    subst h1; subst h2; subst h3
    exact Or.inl ⟨v, (T.setVm vm₁).calling g' mk (Value.ref b :: As).toArray, t, U', L, hT, X', hL, e1, e2, hq, st⟩
  · dsimp only [Pt.U, Pt.locs, Pt.cells, Pt.slots] at X' e1 e2 h1 h2 h3 st hcl
    subst h1; subst h2; subst h3
    exact Or.inr ⟨q, (T.setVm vm₁).calling g' mk (Value.ref b :: As).toArray, t, U', L, E, ce, hT, X', hL, e1, e2, hq, hce, hcv, vx_cls hW₁ hcl, st⟩
theorem vx_runS (S : CallFix p m c cc nL s args Ts own) (hM : vx_Met l y ws rm Pc Qc XC mc ms free) (cw : CallB R s args own index y bytes maxL ret ws rm mc ms n ∧ (Cond.static y).before args s = true) (hp : PreS s H Pc As)
    (hg : g.method = m) (hn : As.length = n) (hsize : g.locals.size = nL) (hstack : g.stack = As.reverse ++ rest) (hW : 2 * g.monitorRoom + (rest.map fun v => v.category).sum ≤ 8) (hdg : decode cc g.pc = .ok (.invokestatic index, 3)) (hf : cells + mc ≤ R.cells ∧ slots + ms ≤ R.slots) :
    vx_Run p l e R s m args below meth c H locs cells slots mc ms g rest (Qc As.toArray) XC free := by
  have hK : vx_Back l R p e below s args y 3 8 (PreOf R mc ms Pc) (PostOf Qc mc ms free) (vx_Post XC mc ms free) := vx_callBack cw.1 hM hp.1
  obtain ⟨⟨-, -, -, -, -, -, hcode, hini, hy, hlen, hl⟩, hstt⟩ := cw
  obtain ⟨hx, hb, hml, ho, -⟩ := S
  intro T hT X
  rcases vx_callS X hx (bytes := bytes) (maxL := maxL) (ret := ret) ho hl hstt hini hcode hy hK hg (hsize.trans hml.symm) (argsL := As) (rest := rest) (fun sig h => hn.trans (hlen sig h)) hstack hW (by rw [hb]; exact hdg)
    (fun vm₁ hW₁ => ⟨hf.1, hf.2, hp.2 (T.setVm vm₁) hT hW₁⟩) with ⟨v, vm₁, ⟨U', l2, c2, s2⟩, hW₁, X', ⟨g', mk, t, L, e1, e2, hq, h1, hL, h2, h3⟩, st⟩ | ⟨q, vm₁, ⟨U', l2, c2, s2⟩, hW₁, X', ⟨g', mk, t, L, E, ce, e1, e2, hq, hce, hcv, hcl, h1, hL, h2, h3⟩, st⟩
  · dsimp only [Pt.U, Pt.locs, Pt.cells, Pt.slots] at X' e1 e2 h1 h2 h3 st
    subst h1; subst h2; subst h3
    exact Or.inl ⟨v, (T.setVm vm₁).calling g' mk As.toArray, t, U', L, hT, X', hL, e1, e2, hq, st⟩
  · dsimp only [Pt.U, Pt.locs, Pt.cells, Pt.slots] at X' e1 e2 h1 h2 h3 st hcl
    subst h1; subst h2; subst h3
    exact Or.inr ⟨q, (T.setVm vm₁).calling g' mk As.toArray, t, U', L, E, ce, hT, X', hL, e1, e2, hq, hce, hcv, vx_cls hW₁ hcl, st⟩
end Runs
section Rows
variable {p : Program} {l : Launch} {e : Env} {R : Room} {s : State} {m : MethodId} {args : Array Value} {below : List Frame} {meth : Method} {c : Code} {H : Heap} {locs : List Loc} {cells slots : Nat} {Q : State → Prop}
variable {mc ms : Nat} {free : Addr → Prop} {A0 A1 : Nat → Prop} {H0 : Heap} {a : Array Value} {pc : Nat} {ls : Array Slot} {st0 rest : List Value}
theorem vx_keep {st₀ t T' : State} {L : List Loc} (h0 : st₀.heap = H) (e1 : T'.heap = t.heap) (hS : va_S A0 H0 H locs) (hA : ∀ q, q < H.size → A1 q → A0 q) (hf : ∀ q, free q → A0 q) (hL : ∀ q ∈ L, free q.base) (hF : va_F A1 st₀ t) :
    H.size ≤ T'.heap.size ∧ (∀ q : Nat, q < H.size → ¬ A1 q → T'.heap[q]? = H[q]?) ∧ va_S A0 H0 T'.heap (locs ++ L) := by
  obtain ⟨hz, hk⟩ := hF
  rw [h0] at hz hk
  exact ⟨by rw [e1]; exact hz, fun q h1 h2 => by rw [e1]; exact hk q h1 h2,
    ⟨Nat.le_trans hS.1 (by rw [e1]; exact hz), fun q h1 h2 => by rw [e1, hk q (Nat.lt_of_lt_of_le h1 hS.1) (fun z => h2 (hA q (Nat.lt_of_lt_of_le h1 hS.1) z))]; exact hS.2.1 q h1 h2, fun q hq => by
      rcases List.mem_append.mp hq with h | h
      · exact hS.2.2 q h
      · exact hf _ (hL q h)⟩⟩
theorem vx_calli {S SX : Type} {post : Int32 → S → Prop} {px : SX → Prop} {B : S → State → Prop} {BX : String → SX → State → Prop} {AX : Nat → Prop} (hr : vx_Run p l e R s m args below meth c H locs cells slots mc ms (F0 m pc ls st0) rest (va_Qi post B A1 a) (vx_X px BX AX) free) (hS : va_S A0 H0 H locs) (hA : ∀ q, q < H.size → A1 q → A0 q) (hf : ∀ q, free q → A0 q) (hAX : ∀ q, q < H.size → AX q → A0 q)
    (kx : ∀ (E : String) (ce : Cell) (q9 : Addr) (u : SX) (t : State) (H1 : Heap) (locs1 : List Loc), t.heap = H1 → s.vm.Alike t.vm → px u → BX E u t → H.size ≤ H1.size → (∀ q : Nat, q < H.size → ¬ AX q → H1[q]? = H[q]?) → va_S A0 H0 H1 locs1 → H1[q9]? = some ce → ce.vm = .none → s.vm.findClass E = some ce.cls → vx_W p l e R s m args below meth c H1 locs1 (cells + mc) (slots + ms) Q (F0 m pc ls rest) q9)
    (kk : ∀ (r : Int32) (u : S) (t : State) (H1 : Heap) (locs1 : List Loc), t.heap = H1 → s.vm.Alike t.vm → post r u → B u t → H.size ≤ H1.size → (∀ q : Nat, q < H.size → ¬ A1 q → H1[q]? = H[q]?) → va_S A0 H0 H1 locs1 → W p l e R s m args below meth c H1 locs1 (cells + mc) (slots + ms) Q (F0 m (pc + 3) ls (.int r :: rest))) : W p l e R s m args below meth c H locs cells slots Q (F0 m pc ls st0) := by
  intro T hT X
  rcases hr T hT X with ⟨v, st₀, t, T', L, h0, X', hL, e1, e2, ⟨⟨r, u, hv, hp, hb⟩, hF⟩, st⟩ | ⟨q, st₀, t, T', L, E, ce, h0, X', hL, e1, e2, ⟨u, hp, hb, hF⟩, hce, hcv, hcl, st⟩
  · cases hv
    obtain ⟨k1, k2, k3⟩ := vx_keep h0 e1 hS hA hf hL hF
    obtain ⟨t2, a1, b1⟩ := kk r u t T'.heap (locs ++ L) e1.symm (by rw [← e2]; exact X'.warmed.alike) hp hb k1 k2 k3 T' rfl X'
    exact ⟨t2, st t2 a1, b1⟩
  · obtain ⟨k1, k2, k3⟩ := vx_keep h0 e1 hS hAX hf hL hF
    obtain ⟨t2, a1, b1⟩ := kx E ce q u t T'.heap (locs ++ L) e1.symm (by rw [← e2]; exact X'.warmed.alike) hp hb k1 k2 k3 (by rw [e1]; exact hce) hcv hcl T' rfl X'
    exact ⟨t2, st.trans a1, b1⟩
theorem vx_calll {S SX : Type} {post : Int64 → S → Prop} {px : SX → Prop} {B : S → State → Prop} {BX : String → SX → State → Prop} {AX : Nat → Prop} (hr : vx_Run p l e R s m args below meth c H locs cells slots mc ms (F0 m pc ls st0) rest (va_Ql post B A1 a) (vx_X px BX AX) free) (hS : va_S A0 H0 H locs) (hA : ∀ q, q < H.size → A1 q → A0 q) (hf : ∀ q, free q → A0 q) (hAX : ∀ q, q < H.size → AX q → A0 q)
    (kx : ∀ (E : String) (ce : Cell) (q9 : Addr) (u : SX) (t : State) (H1 : Heap) (locs1 : List Loc), t.heap = H1 → s.vm.Alike t.vm → px u → BX E u t → H.size ≤ H1.size → (∀ q : Nat, q < H.size → ¬ AX q → H1[q]? = H[q]?) → va_S A0 H0 H1 locs1 → H1[q9]? = some ce → ce.vm = .none → s.vm.findClass E = some ce.cls → vx_W p l e R s m args below meth c H1 locs1 (cells + mc) (slots + ms) Q (F0 m pc ls rest) q9)
    (kk : ∀ (r : Int64) (u : S) (t : State) (H1 : Heap) (locs1 : List Loc), t.heap = H1 → s.vm.Alike t.vm → post r u → B u t → H.size ≤ H1.size → (∀ q : Nat, q < H.size → ¬ A1 q → H1[q]? = H[q]?) → va_S A0 H0 H1 locs1 → W p l e R s m args below meth c H1 locs1 (cells + mc) (slots + ms) Q (F0 m (pc + 3) ls (.long r :: rest))) : W p l e R s m args below meth c H locs cells slots Q (F0 m pc ls st0) := by
  intro T hT X
  rcases hr T hT X with ⟨v, st₀, t, T', L, h0, X', hL, e1, e2, ⟨⟨r, u, hv, hp, hb⟩, hF⟩, st⟩ | ⟨q, st₀, t, T', L, E, ce, h0, X', hL, e1, e2, ⟨u, hp, hb, hF⟩, hce, hcv, hcl, st⟩
  · cases hv
    obtain ⟨k1, k2, k3⟩ := vx_keep h0 e1 hS hA hf hL hF
    obtain ⟨t2, a1, b1⟩ := kk r u t T'.heap (locs ++ L) e1.symm (by rw [← e2]; exact X'.warmed.alike) hp hb k1 k2 k3 T' rfl X'
    exact ⟨t2, st t2 a1, b1⟩
  · obtain ⟨k1, k2, k3⟩ := vx_keep h0 e1 hS hAX hf hL hF
    obtain ⟨t2, a1, b1⟩ := kx E ce q u t T'.heap (locs ++ L) e1.symm (by rw [← e2]; exact X'.warmed.alike) hp hb k1 k2 k3 (by rw [e1]; exact hce) hcv hcl T' rfl X'
    exact ⟨t2, st.trans a1, b1⟩
theorem vx_callf {S SX : Type} {post : UInt32 → S → Prop} {px : SX → Prop} {B : S → State → Prop} {BX : String → SX → State → Prop} {AX : Nat → Prop} (hr : vx_Run p l e R s m args below meth c H locs cells slots mc ms (F0 m pc ls st0) rest (va_Qf post B A1 a) (vx_X px BX AX) free) (hS : va_S A0 H0 H locs) (hA : ∀ q, q < H.size → A1 q → A0 q) (hf : ∀ q, free q → A0 q) (hAX : ∀ q, q < H.size → AX q → A0 q)
    (kx : ∀ (E : String) (ce : Cell) (q9 : Addr) (u : SX) (t : State) (H1 : Heap) (locs1 : List Loc), t.heap = H1 → s.vm.Alike t.vm → px u → BX E u t → H.size ≤ H1.size → (∀ q : Nat, q < H.size → ¬ AX q → H1[q]? = H[q]?) → va_S A0 H0 H1 locs1 → H1[q9]? = some ce → ce.vm = .none → s.vm.findClass E = some ce.cls → vx_W p l e R s m args below meth c H1 locs1 (cells + mc) (slots + ms) Q (F0 m pc ls rest) q9)
    (kk : ∀ (r : UInt32) (u : S) (t : State) (H1 : Heap) (locs1 : List Loc), t.heap = H1 → s.vm.Alike t.vm → post r u → B u t → H.size ≤ H1.size → (∀ q : Nat, q < H.size → ¬ A1 q → H1[q]? = H[q]?) → va_S A0 H0 H1 locs1 → W p l e R s m args below meth c H1 locs1 (cells + mc) (slots + ms) Q (F0 m (pc + 3) ls (.float r :: rest))) : W p l e R s m args below meth c H locs cells slots Q (F0 m pc ls st0) := by
  intro T hT X
  rcases hr T hT X with ⟨v, st₀, t, T', L, h0, X', hL, e1, e2, ⟨⟨r, u, hv, hp, hb⟩, hF⟩, st⟩ | ⟨q, st₀, t, T', L, E, ce, h0, X', hL, e1, e2, ⟨u, hp, hb, hF⟩, hce, hcv, hcl, st⟩
  · cases hv
    obtain ⟨k1, k2, k3⟩ := vx_keep h0 e1 hS hA hf hL hF
    obtain ⟨t2, a1, b1⟩ := kk r u t T'.heap (locs ++ L) e1.symm (by rw [← e2]; exact X'.warmed.alike) hp hb k1 k2 k3 T' rfl X'
    exact ⟨t2, st t2 a1, b1⟩
  · obtain ⟨k1, k2, k3⟩ := vx_keep h0 e1 hS hAX hf hL hF
    obtain ⟨t2, a1, b1⟩ := kx E ce q u t T'.heap (locs ++ L) e1.symm (by rw [← e2]; exact X'.warmed.alike) hp hb k1 k2 k3 (by rw [e1]; exact hce) hcv hcl T' rfl X'
    exact ⟨t2, st.trans a1, b1⟩
theorem vx_calld {S SX : Type} {post : UInt64 → S → Prop} {px : SX → Prop} {B : S → State → Prop} {BX : String → SX → State → Prop} {AX : Nat → Prop} (hr : vx_Run p l e R s m args below meth c H locs cells slots mc ms (F0 m pc ls st0) rest (va_Qd post B A1 a) (vx_X px BX AX) free) (hS : va_S A0 H0 H locs) (hA : ∀ q, q < H.size → A1 q → A0 q) (hf : ∀ q, free q → A0 q) (hAX : ∀ q, q < H.size → AX q → A0 q)
    (kx : ∀ (E : String) (ce : Cell) (q9 : Addr) (u : SX) (t : State) (H1 : Heap) (locs1 : List Loc), t.heap = H1 → s.vm.Alike t.vm → px u → BX E u t → H.size ≤ H1.size → (∀ q : Nat, q < H.size → ¬ AX q → H1[q]? = H[q]?) → va_S A0 H0 H1 locs1 → H1[q9]? = some ce → ce.vm = .none → s.vm.findClass E = some ce.cls → vx_W p l e R s m args below meth c H1 locs1 (cells + mc) (slots + ms) Q (F0 m pc ls rest) q9)
    (kk : ∀ (r : UInt64) (u : S) (t : State) (H1 : Heap) (locs1 : List Loc), t.heap = H1 → s.vm.Alike t.vm → post r u → B u t → H.size ≤ H1.size → (∀ q : Nat, q < H.size → ¬ A1 q → H1[q]? = H[q]?) → va_S A0 H0 H1 locs1 → W p l e R s m args below meth c H1 locs1 (cells + mc) (slots + ms) Q (F0 m (pc + 3) ls (.double r :: rest))) : W p l e R s m args below meth c H locs cells slots Q (F0 m pc ls st0) := by
  intro T hT X
  rcases hr T hT X with ⟨v, st₀, t, T', L, h0, X', hL, e1, e2, ⟨⟨r, u, hv, hp, hb⟩, hF⟩, st⟩ | ⟨q, st₀, t, T', L, E, ce, h0, X', hL, e1, e2, ⟨u, hp, hb, hF⟩, hce, hcv, hcl, st⟩
  · cases hv
    obtain ⟨k1, k2, k3⟩ := vx_keep h0 e1 hS hA hf hL hF
    obtain ⟨t2, a1, b1⟩ := kk r u t T'.heap (locs ++ L) e1.symm (by rw [← e2]; exact X'.warmed.alike) hp hb k1 k2 k3 T' rfl X'
    exact ⟨t2, st t2 a1, b1⟩
  · obtain ⟨k1, k2, k3⟩ := vx_keep h0 e1 hS hAX hf hL hF
    obtain ⟨t2, a1, b1⟩ := kx E ce q u t T'.heap (locs ++ L) e1.symm (by rw [← e2]; exact X'.warmed.alike) hp hb k1 k2 k3 (by rw [e1]; exact hce) hcv hcl T' rfl X'
    exact ⟨t2, st.trans a1, b1⟩
theorem vx_callv {S SX : Type} {post : S → Prop} {px : SX → Prop} {B : S → State → Prop} {BX : String → SX → State → Prop} {AX : Nat → Prop} (hr : vx_Run p l e R s m args below meth c H locs cells slots mc ms (F0 m pc ls st0) rest (va_Qv post B A1 a) (vx_X px BX AX) free) (hS : va_S A0 H0 H locs) (hA : ∀ q, q < H.size → A1 q → A0 q) (hf : ∀ q, free q → A0 q) (hAX : ∀ q, q < H.size → AX q → A0 q)
    (kx : ∀ (E : String) (ce : Cell) (q9 : Addr) (u : SX) (t : State) (H1 : Heap) (locs1 : List Loc), t.heap = H1 → s.vm.Alike t.vm → px u → BX E u t → H.size ≤ H1.size → (∀ q : Nat, q < H.size → ¬ AX q → H1[q]? = H[q]?) → va_S A0 H0 H1 locs1 → H1[q9]? = some ce → ce.vm = .none → s.vm.findClass E = some ce.cls → vx_W p l e R s m args below meth c H1 locs1 (cells + mc) (slots + ms) Q (F0 m pc ls rest) q9)
    (kk : ∀ (u : S) (t : State) (H1 : Heap) (locs1 : List Loc), t.heap = H1 → s.vm.Alike t.vm → post u → B u t → H.size ≤ H1.size → (∀ q : Nat, q < H.size → ¬ A1 q → H1[q]? = H[q]?) → va_S A0 H0 H1 locs1 → W p l e R s m args below meth c H1 locs1 (cells + mc) (slots + ms) Q (F0 m (pc + 3) ls (rest))) : W p l e R s m args below meth c H locs cells slots Q (F0 m pc ls st0) := by
  intro T hT X
  rcases hr T hT X with ⟨v, st₀, t, T', L, h0, X', hL, e1, e2, ⟨⟨u, hv, hp, hb⟩, hF⟩, st⟩ | ⟨q, st₀, t, T', L, E, ce, h0, X', hL, e1, e2, ⟨u, hp, hb, hF⟩, hce, hcv, hcl, st⟩
  · cases hv
    obtain ⟨k1, k2, k3⟩ := vx_keep h0 e1 hS hA hf hL hF
    obtain ⟨t2, a1, b1⟩ := kk u t T'.heap (locs ++ L) e1.symm (by rw [← e2]; exact X'.warmed.alike) hp hb k1 k2 k3 T' rfl X'
    exact ⟨t2, st t2 a1, b1⟩
  · obtain ⟨k1, k2, k3⟩ := vx_keep h0 e1 hS hAX hf hL hF
    obtain ⟨t2, a1, b1⟩ := kx E ce q u t T'.heap (locs ++ L) e1.symm (by rw [← e2]; exact X'.warmed.alike) hp hb k1 k2 k3 (by rw [e1]; exact hce) hcv hcl T' rfl X'
    exact ⟨t2, st.trans a1, b1⟩
end Rows
section Ends
variable {p : Program} {l : Launch} {e : Env} {R : Room} {s : State} {m : MethodId} {args : Array Value} {below : List Frame} {meth : Method} {c : Code} {H : Heap} {locs : List Loc} {cells slots : Nat} {Q : State → Prop}
variable {mc ms : Nat} {free : Addr → Prop} {A0 A1 : Nat → Prop} {H0 : Heap} {a : Array Value} {ls : Array Slot} {st0 rest : List Value}
variable {Qc : Array Value → State → Outcome → State → Prop} {XC : String → State → State → Prop}
/-- what a body that may throw owes at its end -/
def vx_MQ (below : List Frame) (Qc : Array Value → State → Outcome → State → Prop) (XC : String → State → State → Prop) (a : Array Value) (s : State) (mc ms : Nat) (free : Addr → Prop) : State → Prop := fun t =>
  ∃ o, t.status = .running ∧ Ended t below o ∧ vx_Q Qc XC mc ms free a s o t
theorem vx_ret {g : JFrame} {mc ms : Nat} (k : W p l e R s m args below meth c H locs cells slots (MQ below Qc args s mc ms free) g) : W p l e R s m args below meth c H locs cells slots (vx_MQ below Qc XC args s mc ms free) g := by
  intro T hT X
  obtain ⟨t, a1, o, b1, b2, b3, b4⟩ := k T hT X
  exact ⟨t, a1, o, b1, b2, Or.inl ⟨b3, b4⟩⟩
/-- not caught here: it goes on to the caller -/
theorem vx_widen {g : JFrame} {q : Addr} {k n : Nat} (h1 : cells ≤ k) (h2 : slots ≤ n) (kk : vx_W p l e R s m args below meth c H locs k n Q g q) : vx_W p l e R s m args below meth c H locs cells slots Q g q := fun T hT X => kk T hT (stand_widen X h1 h2)
theorem vx_out {pc : Nat} {E : String} {ce : Cell} {q : Addr} {mc ms : Nat} (hout : ∀ x ∈ c.exceptionTable.toList, covers x pc = false) (hlocks : meth.locks = false) (hcell : H[q]? = some ce) (hv : ce.vm = .none) (hcl : s.vm.findClass E = some ce.cls)
    (hx : ∀ t : State, t.heap = H → s.vm.Alike t.vm → XC E s t) (hf : ∀ z ∈ locs, free z.base) (hc : cells ≤ mc) (hs : slots ≤ ms) :
    vx_W p l e R s m args below meth c H locs cells slots (vx_MQ below Qc XC args s mc ms free) (F0 m pc ls rest) q := by
  intro T hT X
  obtain ⟨st1, hrun, hend, hW, hsm⟩ := X.leaveThrown q (g := F0 m pc ls rest) rfl rfl rfl hout hlocks
  have hcell9 : (T.setFrames (.throwing q :: below)).heap[q]? = some ce := by
    show T.heap[q]? = some ce
    rw [hT]; exact hcell
  exact ⟨_, st1, .threw q, hrun, hend, Or.inr ⟨q, rfl, E, ce, locs, hx _ hT hW.alike, hcell9, hv, hcl, hW, hsm.mono hc hs, hf⟩⟩
theorem vx_frame {U : State} {k n : Nat} (h : s.sameButNew ({ U with vm := s.vm } : State) locs k n) : s.heap.size ≤ U.heap.size ∧ ∀ q : Nat, q < s.heap.size → (∀ z ∈ locs, z.base ≠ q) → U.heap[q]? = s.heap[q]? := by
  obtain ⟨-, h2, -, -, -, h6⟩ := h
  refine ⟨h2, fun q hq hz => ?_⟩
  obtain ⟨c9, e1, e2, e3, e4⟩ := h6 q _ (Array.getElem?_eq_getElem hq)
  have hs : c9.slots = (s.heap[q]).slots := Array.ext_getElem? fun i => e4 i fun hm => hz _ hm rfl
  have h9 : c9 = s.heap[q] := by
    rw [hs] at e2
    exact e2
  have e5 : U.heap[q]? = some c9 := e1
  rw [e5, h9, Array.getElem?_eq_getElem hq]
/-- the words of a throw but the four that speak of the heap -/
def vx_no (w : Cond) : Bool := decide (w ≠ .isRef (.static Bundle.tN "UNASSIGNED_STACK" Bundle.steD)) && decide (w ≠ .isRef (.static Bundle.tN "SUPPRESSED_SENTINEL" Bundle.listD)) && decide (w ≠ .laysStatic Bundle.tN "UNASSIGNED_STACK" Bundle.steD) && decide (w ≠ .laysStatic Bundle.tN "SUPPRESSED_SENTINEL" Bundle.listD)
def vx_at0 (own : String) (ic : Nat) (X : String) (names : List String) : List Cond := (Bundle.ownAtoms0 own ic X names).filter vx_no
def vx_atS (own : String) (ic : Nat) (X : String) (names : List String) : List Cond := (Bundle.ownAtoms own ic X names).filter vx_no
/-- a word that the tables alone decide, or a good one -/
def vx_ot (w : Cond) : Bool := w.onTables || goodWord w
theorem vx_ot_at {args a' : Array Value} {s U : State} {w : Cond} (hW : s.WarmedH U.vm) (hvm : s.vm = U.vm) (hg : vx_ot w = true) (h : w.before args s = true) : w.before a' U = true := by
  simp only [vx_ot, Bool.or_eq_true] at hg
  rcases hg with hg | hg
  · exact va_tabs hg hvm h
  · exact word_at hW (good_of_word hg) h
/-- a list's words: the good ones out of the method's own list, the others by premises of their own -/
theorem vx_hat {args : Array Value} {s : State} {L B : List Cond} (h1 : ∀ w ∈ L.filter goodWord, w.before args s = true) (h2 : ∀ w ∈ L.filter (fun w => !goodWord w), w ∈ B) (h3 : ∀ w ∈ B, w.before args s = true) : ∀ w ∈ L, w.before args s = true := by
  intro w hw
  by_cases g : goodWord w = true
  · exact h1 w (List.mem_filter.mpr ⟨hw, g⟩)
  · refine h3 w (h2 w (List.mem_filter.mpr ⟨hw, ?_⟩))
    show (!goodWord w) = true
    cases hgw : goodWord w
    · rfl
    · exact absurd hgw g
theorem vx_c {args : Array Value} {s : State} {w : Cond} {B : List Cond} (h : w.before args s = true) (t : ∀ w ∈ B, w.before args s = true) : ∀ w' ∈ w :: B, w'.before args s = true := fun w' h' => (List.mem_cons.mp h').elim (fun e => by rw [e]; exact h) (t w')
theorem vx_n {args : Array Value} {s : State} : ∀ w ∈ ([] : List Cond), w.before args s = true := fun _ h => nomatch h
theorem vx_own {args : Array Value} {s : State} {L : List Cond} (h1 : ∀ w ∈ L.filter vx_no, w.before args s = true)
    (hU : (Cond.isRef (.static Bundle.tN "UNASSIGNED_STACK" Bundle.steD)).before args s = true) (hN : (Cond.isRef (.static Bundle.tN "SUPPRESSED_SENTINEL" Bundle.listD)).before args s = true)
    (lU : (Cond.laysStatic Bundle.tN "UNASSIGNED_STACK" Bundle.steD).before args s = true) (lN : (Cond.laysStatic Bundle.tN "SUPPRESSED_SENTINEL" Bundle.listD).before args s = true) : ∀ w ∈ L, w.before args s = true := by
  intro w hw
  by_cases e1 : w = .isRef (.static Bundle.tN "UNASSIGNED_STACK" Bundle.steD)
  · rw [e1]; exact hU
  · by_cases e2 : w = .isRef (.static Bundle.tN "SUPPRESSED_SENTINEL" Bundle.listD)
    · rw [e2]; exact hN
    · by_cases e3 : w = .laysStatic Bundle.tN "UNASSIGNED_STACK" Bundle.steD
      · rw [e3]; exact lU
      · by_cases e4 : w = .laysStatic Bundle.tN "SUPPRESSED_SENTINEL" Bundle.listD
        · rw [e4]; exact lN
        · exact h1 w (List.mem_filter.mpr ⟨hw, by unfold vx_no; rw [decide_eq_true e1, decide_eq_true e2, decide_eq_true e3, decide_eq_true e4]; rfl⟩)
/-- where a static field lies, its class's statics cell in H -/
def vx_L (C n d : String) (A : Nat → Prop) (U : State) (H : Heap) : Prop := ∃ (c : ClassId) (k : Class) (i : Nat) (f : Field) (a : Nat) (cell : Cell), U.vm.findClass C = some c ∧ U.fieldFound? C n d = some (c, k, i, f) ∧ f.isStatic = true ∧ k.statics = some a ∧ H[a]? = some cell ∧ cell.vm.isStatics = true ∧ cell.cls = c ∧ f.slot < cell.slots.size ∧ k.staticTypes[f.slot]? = some f.type ∧ ¬ A a
theorem vx_L.moved {C n d : String} {A : Nat → Prop} {u U : State} {H : Heap} (hvm : u.vm.Alike U.vm) (h : vx_L C n d A u H) : vx_L C n d A U H := by
  obtain ⟨c, k, i, f, a, cell, h1, h2, h3, h4, h5, h6, h7, h8, h9, h10⟩ := h
  obtain ⟨k', hi', he⟩ := State.fieldFound?_setVm hvm h2
  exact ⟨c, k', i, f, a, cell, by rw [hvm.findClass]; exact h1, hi', h3, by rw [he]; exact h4, h5, h6, h7, h8, by rw [he]; exact h9, h10⟩
theorem vx_L.kept {C n d : String} {A : Nat → Prop} {U : State} {H H1 : Heap} (h : vx_L C n d A U H) (hq : ∀ a : Nat, a < H.size → ¬ A a → H1[a]? = H[a]?) : vx_L C n d A U H1 := by
  obtain ⟨c, k, i, f, a, cell, h1, h2, h3, h4, h5, h6, h7, h8, h9, h10⟩ := h
  exact ⟨c, k, i, f, a, cell, h1, h2, h3, h4, by rw [hq a (Array.getElem?_eq_some_iff.mp h5).1 h10]; exact h5, h6, h7, h8, h9, h10⟩
theorem vx_L.narrow {C n d : String} {A B : Nat → Prop} {U : State} {H : Heap} (h : vx_L C n d A U H) (hAB : ∀ q, B q → A q) : vx_L C n d B U H := by
  obtain ⟨c, k, i, f, a, cell, h1, h2, h3, h4, h5, h6, h7, h8, h9, h10⟩ := h
  exact ⟨c, k, i, f, a, cell, h1, h2, h3, h4, h5, h6, h7, h8, h9, fun z => h10 (hAB _ z)⟩
theorem vx_L.word {C n d : String} {A : Nat → Prop} {s : State} {args : Array Value} (h : vx_L C n d A s s.heap) : (Cond.laysStatic C n d).before args s = true := by
  obtain ⟨c, k, i, f, a, cell, h1, h2, h3, h4, h5, h6, h7, h8, h9, -⟩ := h
  show (Cond.laysStatic C n d).holds args s none s [] = true
  exact Cond.laysStatic_of h1 h2 h3 h4 h5 h6 h7 h8 h9
/-- .. and what it holds: null or some reference -/
def vx_Zq (C n d : String) (A : Nat → Prop) (U : State) (H : Heap) : Prop := va_Zq C n d A U H ∧ vx_L C n d A U H
theorem vx_Zq.moved {C n d : String} {A : Nat → Prop} {u U : State} {H : Heap} (hvm : u.vm.Alike U.vm) (h : vx_Zq C n d A u H) : vx_Zq C n d A U H := ⟨va_Zq.moved hvm h.1, vx_L.moved hvm h.2⟩
theorem vx_Zq.kept {C n d : String} {A : Nat → Prop} {U : State} {H H1 : Heap} (h : vx_Zq C n d A U H) (hq : ∀ a : Nat, a < H.size → ¬ A a → H1[a]? = H[a]?) : vx_Zq C n d A U H1 := ⟨va_Zq.kept h.1 hq, vx_L.kept h.2 hq⟩
theorem vx_Zq.narrow {C n d : String} {A B : Nat → Prop} {U : State} {H : Heap} (h : vx_Zq C n d A U H) (hAB : ∀ q, B q → A q) : vx_Zq C n d B U H := ⟨va_Zq.narrow h.1 hAB, vx_L.narrow h.2 hAB⟩
theorem vx_Zqof {args : Array Value} {s : State} {C n d : String} {A : Nat → Prop} (hl : (Cond.laysStatic C n d).before args s = true) (hini : (Cond.initialized C).before args s = true) (h : (Cond.isRef (.static C n d)).before args s = true) (hA : ∀ a : Nat, a < s.heap.size → ¬ A a) : vx_Zq C n d A s s.heap := by
  refine ⟨va_Zqof hl hini h hA, ?_⟩
  obtain ⟨c, k, i, f, a, cell, h1, h2, h3, h4, h5, h6, h7, h8, h9⟩ := Cond.laysStatic_spec hl
  exact ⟨c, k, i, f, a, cell, h1, h2, h3, h4, h5, h6, h7, h8, h9, hA a (Array.getElem?_eq_some_iff.mp h5).1⟩
theorem vx_isRef {C n d : String} {v : Value} {A : Nat → Prop} {s : State} {args : Array Value} (h : va_Z C n d v A s s.heap) (hv : v.isRef = true) : (Cond.isRef (.static C n d)).before args s = true := by
  obtain ⟨cf, kf, fi, f, a, cell, h1, h2, h3, h4, h5, h6, h7, -⟩ := h
  have he : (Term.static C n d).eval args s none [] s = some v := by
    simp [Term.eval, State.fieldNamed?, h1, h2, h4, h5, h6, h7]
  simp only [Cond.before, Cond.holds, Cond.value, he]
  cases v <;> simp_all [Value.isRef]
theorem vx_isRefq {C n d : String} {A : Nat → Prop} {s : State} {args : Array Value} (h : va_Zq C n d A s s.heap) : (Cond.isRef (.static C n d)).before args s = true := by
  rcases h with h | ⟨t, h⟩
  · exact vx_isRef h rfl
  · exact vx_isRef h rfl
/-- the same frame, seen from here: as if the method were called anew in this heap -/
theorem vx_rebase {T : State} (X : Stand p l e R s m args below meth c T locs cells slots) {R' : Room} (hf : R'.frames ≤ R.frames) (hl : R'.locals ≤ R.locals) (hc : cells + R'.cells ≤ R.cells) (hs : slots + R'.slots ≤ R.slots) :
    Stand p l e R' ((T.setVm s.vm).setFrames (.invoking m args :: below)) m args below meth c T [] 0 0 := by
  have htop : (T.setVm s.vm).topJava?.isSome := X.here.top
  have hF : ((T.setVm s.vm).setFrames (.invoking m args :: below)).frames = .invoking m args :: below := State.frames_setFrames _ (State.cur_lt_of_top htop)
  obtain ⟨g₀, hg0⟩ := Option.isSome_iff_exists.mp htop
  obtain ⟨r, hr⟩ := State.topJava?_eq_some.mp hg0
  have hl9 : e.platform.stackLimits (T.setVm s.vm).me = e.platform.stackLimits s.me := X.limits
  have hb9 : (T.setVm s.vm).me.stackBytes = s.me.stackBytes := X.bytes
  refine ⟨X.admits, X.cas, X.clock, hF, ?_, X.hears, X.method, X.code, X.here, X.tail, X.warmed, ?_, ?_, ?_⟩
  · have h := X.room
    have hU : ((T.setVm s.vm).setFrames (.invoking m args :: below)).localsInUse = s.localsInUse := by
      rw [State.localsInUse_invoking hF (meth := meth) (c := c) X.method X.code, State.localsInUse_invoking X.frames X.method X.code]
    simp only [State.hasRoom, Bool.and_eq_true, decide_eq_true_eq] at h ⊢
    obtain ⟨⟨⟨⟨h1, h2, h3, h4, h5, h6⟩, h7⟩, h8⟩, h9⟩ := h
    rw [X.frames, List.length_cons] at h2 h3
    have q1 := X.heapSize
    have q2 := X.used
    simp only [hF, hU, List.length_cons, State.stackLimits_setFrames, State.stackBytes_setFrames, hl9, hb9]
    refine ⟨⟨⟨⟨by omega, by omega, by omega, by omega, by omega, h6⟩, ?_⟩, ?_⟩, X.book⟩
    · show T.heap.size + R'.cells ≤ e.platform.maxCells
      omega
    · show T.slotsUsed + R'.slots ≤ e.platform.maxSlots
      omega
  · rw [State.stackLimits_setFrames]; rfl
  · rw [State.stackBytes_setFrames]; rfl
  · refine ⟨?_, Nat.le_refl _, Nat.le_refl _, ?_, ?_, fun a c9 h9 => ⟨c9, h9, rfl, rfl, fun _ _ => rfl⟩⟩
    · obtain ⟨t, ht, -⟩ := State.frames_cons hr
      show T.setVm s.vm = { ((T.setVm s.vm).setFrames (.invoking m args :: below)).setFrames (T.setVm s.vm).frames with heap := T.heap, slotsUsed := T.slotsUsed }
      rw [State.setFrames_setFrames, State.setFrames_self ht]
      rfl
    · show T.slotsUsed = T.slotsUsed + ((T.heap.toList.drop T.heap.size).map (·.slots.size)).sum
      rw [List.drop_eq_nil_of_le (Nat.le_of_eq Array.length_toList)]
      rfl
    · show ((T.heap.toList.drop T.heap.size).map (·.slots.size)).sum ≤ 0
      rw [List.drop_eq_nil_of_le (Nat.le_of_eq Array.length_toList)]
      exact Nat.le_refl _
/-- 'throw new E()': new; dup; invokespecial; athrow -/
theorem vx_throw0 {cc : ByteArray} {pc : Nat} (hexec : p.tables.exec = Jvm.exec) (hb : c.code = cc) (hl : l.stackTraces = false) {own cls : String} {names : List String} {ik ic mc ms : Nat} {A : Nat → Prop}
    (hown : s.vm.findClass own = some m.cls) (hcls : Bundle.fit cls = true) (hnames : ∀ n ∈ names, Bundle.fit n = true)
    (hk : (Cond.classLink own ik cls).before args s = true) (hini : (Cond.initialized cls).before args s = true) (hat : ∀ w ∈ vx_at0 own ic cls names, w.before args s = true)
    (hgood : ∀ w ∈ Cond.classLink own ik cls :: Cond.initialized cls :: vx_at0 own ic cls names, vx_ot w = true)
    (hU : vx_Zq Bundle.tN "UNASSIGNED_STACK" Bundle.steD A s s.heap) (hN : vx_Zq Bundle.tN "SUPPRESSED_SENTINEL" Bundle.listD A s s.heap) (hS : va_S A s.heap H locs) (hsize : ls.size = c.maxLocals)
    (d0 : decode cc pc = .ok (.new ik, 3)) (d3 : decode cc (pc + 3) = .ok (.dup, 1)) (d4 : decode cc (pc + 4) = .ok (.invokespecial ic, 3)) (d7 : decode cc (pc + 7) = .ok (.athrow, 1))
    (hout : ∀ x ∈ c.exceptionTable.toList, covers x (pc + 7) = false)
    (hRframes : names.length + 3 < R.frames) (hRlocals : (rest.map fun v => v.category).sum + (13 * (names.length + 1) + 42) ≤ R.locals) (hRcells : cells + 1 ≤ R.cells) (hRslots : slots + 6 ≤ R.slots) (hlocks : meth.locks = false)
    (hx : ∀ t : State, s.vm.Alike t.vm → H.size ≤ t.heap.size → (∀ q : Nat, q < H.size → t.heap[q]? = H[q]?) → XC cls s t)
    (hf : ∀ z ∈ locs, free z.base) (hc : cells + 1 ≤ mc) (hs : slots + 6 ≤ ms) :
    W p l e R s m args below meth c H locs cells slots (vx_MQ below Qc XC args s mc ms free) (F0 m pc ls rest) := by
  intro T hT X
  have htr : e.platform.stackTraces = false := (show e.platform.stackTraces = l.stackTraces by rw [X.admits.platform]).trans hl
  have Y := vx_rebase X (R' := { frames := R.frames, locals := R.locals, cells := 1, slots := 6 }) (Nat.le_refl _) (Nat.le_refl _) hRcells hRslots
  obtain ⟨s', hA⟩ : ∃ z, z = (T.setVm s.vm).setFrames (.invoking m args :: below) := ⟨_, rfl⟩
  rw [← hA] at Y
  have hvm : s'.vm = s.vm := by rw [hA]; rfl
  have hhp : s'.heap = H := by rw [hA]; exact hT
  have hW0 : s.WarmedH s'.vm := by rw [hvm]; exact State.WarmedH.refl s
  have hat' : ∀ w ∈ vx_at0 own ic cls names, w.before args s' = true := fun w hw => vx_ot_at hW0 hvm.symm (hgood w (List.mem_cons_of_mem _ (List.mem_cons_of_mem _ hw))) (hat w hw)
  have hk' : (Cond.classLink own ik cls).before args s' = true := vx_ot_at hW0 hvm.symm (hgood _ List.mem_cons_self) hk
  have hini' : (Cond.initialized cls).before args s' = true := vx_ot_at hW0 hvm.symm (hgood _ (List.mem_cons_of_mem _ List.mem_cons_self)) hini
  have hU' : vx_Zq Bundle.tN "UNASSIGNED_STACK" Bundle.steD A s' s'.heap := by rw [hhp]; exact vx_Zq.moved hW0.alike (hU.kept hS.2.1)
  have hN' : vx_Zq Bundle.tN "SUPPRESSED_SENTINEL" Bundle.listD A s' s'.heap := by rw [hhp]; exact vx_Zq.moved hW0.alike (hN.kept hS.2.1)
  have h : ∀ w ∈ Bundle.ownAtoms0 own ic cls names, w.before args s' = true := vx_own hat' (vx_isRefq hU'.1) (vx_isRefq hN'.1) hU'.2.word hN'.2.word
  have hown' : s'.vm.findClass own = some m.cls := by rw [hvm]; exact hown
  have hins : (Cond.instantiable cls 6).before args s' = true := h _ (by simp [Bundle.ownAtoms0])
  obtain ⟨vm₁, cX, kX, hfX, hkX, -, -, X₁, st1⟩ := Y.newCold hexec (own := own) (C := cls) (index := ik) (n := 6) hown' hk' hins hini'
    (g := F0 m pc ls rest) rfl (by rw [hb]; exact d0) (Nat.le_refl _) (Nat.le_refl _)
  generalize hT1 : (T.setVm vm₁).pushCell { cls := cX, slots := kX.instanceTypes.map defaultValue, vm := .none } = T1 at X₁ st1
  have hcat : (Value.ref T.heap.size).category = 1 := rfl
  have hcellA : T1.heap[T.heap.size]? = some (freshCell cX kX) := by rw [← hT1]; exact State.heap_pushCell_size _ _
  have d3' : decode c.code (pc + 3) = .ok (.dup, 1) := by rw [hb]; exact d3
  obtain ⟨U, hsteps, hrun, hend, hW, hsame, ce, hce, hO⟩ := X₁.ctorThrow0 hexec htr (own := own) (cls := cls) (names := names) (ic := ic) hown' hcls hnames h (fun x hx => nomatch hx) hfX hkX hcellA (by rw [hhp, hT]; exact Nat.le_refl _)
    (g := { method := m, pc := pc + 4, locals := ls, stack := .ref T.heap.size :: .ref T.heap.size :: rest, locked := none }) rfl hsize rfl rfl (rest := rest) rfl
    (by rw [hb]; exact d4) (by rw [hb]; exact d7) hout hRframes (by simp only [List.map_cons, List.sum_cons, hcat]; omega) hlocks
  obtain ⟨f1, f2⟩ := vx_frame hsame
  rw [hhp] at f1 f2
  have hWs : s.WarmedH U.vm := State.WarmedH.trans hW0 hW
  have hcl : s.vm.findClass cls = some ce.cls := by
    have h9 := hO.cls
    rw [hvm] at h9
    exact h9
  have hall : s.sameButNew ({ U with vm := s.vm } : State) locs mc ms := by
    subst hA
    obtain ⟨e1, e2⟩ := hsame
    rw [State.setFrames_setFrames] at e1
    have h2 : (T.setVm s.vm).sameButNew ({ U with vm := s.vm } : State) [] (0 + 1) (0 + 6) := ⟨e1, e2⟩
    have h3 := X.same.trans h2
    rw [List.append_nil] at h3
    exact h3.mono hc hs
  refine ⟨U, ?_, .threw T.heap.size, hrun, hend, Or.inr ⟨T.heap.size, rfl, cls, ce, locs, hx U hWs.alike f1 (fun q hq => f2 q hq (fun z hz => nomatch hz)), hce, hO.vm, hcl, hWs, hall, hf⟩⟩
  refine st1 _ ?_
  show Steps p.tables e below (T1.setTop { method := m, pc := pc + 3, locals := ls, stack := .ref T.heap.size :: rest, locked := none }) _
  jvm_step X₁.here [X₁.here.top, hexec, d3', Value.category]
  exact hsteps
/-- 'throw new E("text")': new; dup; ldc; invokespecial; athrow -/
theorem vx_throwS {cc : ByteArray} {pc : Nat} (hexec : p.tables.exec = Jvm.exec) (hb : c.code = cc) (hl : l.stackTraces = false) {own cls text : String} {names : List String} {ik is ic mc ms sa : Nat} {A : Nat → Prop}
    (hown : s.vm.findClass own = some m.cls) (hcls : Bundle.fit cls = true) (hnames : ∀ n ∈ names, Bundle.fit n = true)
    (hk : (Cond.classLink own ik cls).before args s = true) (hini : (Cond.initialized cls).before args s = true) (hstr : vk_R own is text sa s) (hat : ∀ w ∈ vx_atS own ic cls names, w.before args s = true)
    (hgood : ∀ w ∈ Cond.classLink own ik cls :: Cond.initialized cls :: vx_atS own ic cls names, vx_ot w = true)
    (hU : vx_Zq Bundle.tN "UNASSIGNED_STACK" Bundle.steD A s s.heap) (hN : vx_Zq Bundle.tN "SUPPRESSED_SENTINEL" Bundle.listD A s s.heap) (hS : va_S A s.heap H locs) (hsize : ls.size = c.maxLocals)
    (d0 : decode cc pc = .ok (.new ik, 3)) (d3 : decode cc (pc + 3) = .ok (.dup, 1)) (d4 : decode cc (pc + 4) = .ok (.ldc is, 2)) (d6 : decode cc (pc + 6) = .ok (.invokespecial ic, 3)) (d9 : decode cc (pc + 9) = .ok (.athrow, 1))
    (hout : ∀ x ∈ c.exceptionTable.toList, covers x (pc + 9) = false)
    (hRframes : names.length + 3 < R.frames) (hRlocals : (rest.map fun v => v.category).sum + (13 * (names.length + 1) + 43) ≤ R.locals) (hRcells : cells + 1 ≤ R.cells) (hRslots : slots + 6 ≤ R.slots) (hlocks : meth.locks = false)
    (hx : ∀ t : State, s.vm.Alike t.vm → H.size ≤ t.heap.size → (∀ q : Nat, q < H.size → t.heap[q]? = H[q]?) → XC cls s t)
    (hf : ∀ z ∈ locs, free z.base) (hc : cells + 1 ≤ mc) (hs : slots + 6 ≤ ms) :
    W p l e R s m args below meth c H locs cells slots (vx_MQ below Qc XC args s mc ms free) (F0 m pc ls rest) := by
  intro T hT X
  have htr : e.platform.stackTraces = false := (show e.platform.stackTraces = l.stackTraces by rw [X.admits.platform]).trans hl
  have Y := vx_rebase X (R' := { frames := R.frames, locals := R.locals, cells := 1, slots := 6 }) (Nat.le_refl _) (Nat.le_refl _) hRcells hRslots
  obtain ⟨s', hA⟩ : ∃ z, z = (T.setVm s.vm).setFrames (.invoking m args :: below) := ⟨_, rfl⟩
  rw [← hA] at Y
  have hvm : s'.vm = s.vm := by rw [hA]; rfl
  have hhp : s'.heap = H := by rw [hA]; exact hT
  have hW0 : s.WarmedH s'.vm := by rw [hvm]; exact State.WarmedH.refl s
  have hat' : ∀ w ∈ vx_atS own ic cls names, w.before args s' = true := fun w hw => vx_ot_at hW0 hvm.symm (hgood w (List.mem_cons_of_mem _ (List.mem_cons_of_mem _ hw))) (hat w hw)
  have hk' : (Cond.classLink own ik cls).before args s' = true := vx_ot_at hW0 hvm.symm (hgood _ List.mem_cons_self) hk
  have hini' : (Cond.initialized cls).before args s' = true := vx_ot_at hW0 hvm.symm (hgood _ (List.mem_cons_of_mem _ List.mem_cons_self)) hini
  have hU' : vx_Zq Bundle.tN "UNASSIGNED_STACK" Bundle.steD A s' s'.heap := by rw [hhp]; exact vx_Zq.moved hW0.alike (hU.kept hS.2.1)
  have hN' : vx_Zq Bundle.tN "SUPPRESSED_SENTINEL" Bundle.listD A s' s'.heap := by rw [hhp]; exact vx_Zq.moved hW0.alike (hN.kept hS.2.1)
  have h : ∀ w ∈ Bundle.ownAtoms own ic cls names, w.before args s' = true := vx_own hat' (vx_isRefq hU'.1) (vx_isRefq hN'.1) hU'.2.word hN'.2.word
  have hown' : s'.vm.findClass own = some m.cls := by rw [hvm]; exact hown
  have hins : (Cond.instantiable cls 6).before args s' = true := h _ (by simp [Bundle.ownAtoms])
  obtain ⟨vm₁, cX, kX, hfX, hkX, -, -, X₁, st1⟩ := Y.newCold hexec (own := own) (C := cls) (index := ik) (n := 6) hown' hk' hins hini'
    (g := F0 m pc ls rest) rfl (by rw [hb]; exact d0) (Nat.le_refl _) (Nat.le_refl _)
  generalize hT1 : (T.setVm vm₁).pushCell { cls := cX, slots := kX.instanceTypes.map defaultValue, vm := .none } = T1 at X₁ st1
  have hcat : (Value.ref T.heap.size).category = 1 := rfl
  have hcellA : T1.heap[T.heap.size]? = some (freshCell cX kX) := by rw [← hT1]; exact State.heap_pushCell_size _ _
  have d3' : decode c.code (pc + 3) = .ok (.dup, 1) := by rw [hb]; exact d3
  have d4' : decode c.code (pc + 4) = .ok (.ldc is, 2) := by rw [hb]; exact d4
  have hstr' : vk_R own is text sa s' := vk_R.warm hW0 hstr
  obtain ⟨U, hsteps, hrun, hend, hW, hsame, ce, hce, hO⟩ := X₁.ctorThrowS hexec htr (own := own) (cls := cls) (names := names) (ic := ic) hown' hcls hnames h (fun x hx => nomatch hx) hfX hkX hcellA (by rw [hhp, hT]; exact Nat.le_refl _) (msg := .ref sa) rfl
    (g := { method := m, pc := pc + 6, locals := ls, stack := .ref sa :: .ref T.heap.size :: .ref T.heap.size :: rest, locked := none }) rfl hsize rfl rfl (rest := rest) rfl
    (by rw [hb]; exact d6) (by rw [hb]; exact d9) hout hRframes (by simp only [List.map_cons, List.sum_cons, hcat]; omega) hlocks
  obtain ⟨f1, f2⟩ := vx_frame hsame
  rw [hhp] at f1 f2
  have hWs : s.WarmedH U.vm := State.WarmedH.trans hW0 hW
  have hcl : s.vm.findClass cls = some ce.cls := by
    have h9 := hO.cls
    rw [hvm] at h9
    exact h9
  have hall : s.sameButNew ({ U with vm := s.vm } : State) locs mc ms := by
    subst hA
    obtain ⟨e1, e2⟩ := hsame
    rw [State.setFrames_setFrames] at e1
    have h2 : (T.setVm s.vm).sameButNew ({ U with vm := s.vm } : State) [] (0 + 1) (0 + 6) := ⟨e1, e2⟩
    have h3 := X.same.trans h2
    rw [List.append_nil] at h3
    exact h3.mono hc hs
  refine ⟨U, ?_, .threw T.heap.size, hrun, hend, Or.inr ⟨T.heap.size, rfl, cls, ce, locs, hx U hWs.alike f1 (fun q hq => f2 q hq (fun z hz => nomatch hz)), hce, hO.vm, hcl, hWs, hall, hf⟩⟩
  refine st1 _ ?_
  show Steps p.tables e below (T1.setTop { method := m, pc := pc + 3, locals := ls, stack := .ref T.heap.size :: rest, locked := none }) _
  jvm_step X₁.here [X₁.here.top, hexec, d3', Value.category]
  exact X₁.ldcString hexec (own := own) (text := text) (index := is) (a := sa) hown' hstr'.1 hstr'.2
    (g := { method := m, pc := pc + 4, locals := ls, stack := .ref T.heap.size :: .ref T.heap.size :: rest, locked := none }) rfl d4' _ hsteps
/-- 'throw new E("text")', the text by a wide index -/
theorem vx_throwSW {cc : ByteArray} {pc : Nat} (hexec : p.tables.exec = Jvm.exec) (hb : c.code = cc) (hl : l.stackTraces = false) {own cls text : String} {names : List String} {ik is ic mc ms sa : Nat} {A : Nat → Prop}
    (hown : s.vm.findClass own = some m.cls) (hcls : Bundle.fit cls = true) (hnames : ∀ n ∈ names, Bundle.fit n = true)
    (hk : (Cond.classLink own ik cls).before args s = true) (hini : (Cond.initialized cls).before args s = true) (hstr : vk_R own is text sa s) (hat : ∀ w ∈ vx_atS own ic cls names, w.before args s = true)
    (hgood : ∀ w ∈ Cond.classLink own ik cls :: Cond.initialized cls :: vx_atS own ic cls names, vx_ot w = true)
    (hU : vx_Zq Bundle.tN "UNASSIGNED_STACK" Bundle.steD A s s.heap) (hN : vx_Zq Bundle.tN "SUPPRESSED_SENTINEL" Bundle.listD A s s.heap) (hS : va_S A s.heap H locs) (hsize : ls.size = c.maxLocals)
    (d0 : decode cc pc = .ok (.new ik, 3)) (d3 : decode cc (pc + 3) = .ok (.dup, 1)) (d4 : decode cc (pc + 4) = .ok (.ldc_w is, 3)) (d7 : decode cc (pc + 7) = .ok (.invokespecial ic, 3)) (d10 : decode cc (pc + 10) = .ok (.athrow, 1))
    (hout : ∀ x ∈ c.exceptionTable.toList, covers x (pc + 10) = false)
    (hRframes : names.length + 3 < R.frames) (hRlocals : (rest.map fun v => v.category).sum + (13 * (names.length + 1) + 43) ≤ R.locals) (hRcells : cells + 1 ≤ R.cells) (hRslots : slots + 6 ≤ R.slots) (hlocks : meth.locks = false)
    (hx : ∀ t : State, s.vm.Alike t.vm → H.size ≤ t.heap.size → (∀ q : Nat, q < H.size → t.heap[q]? = H[q]?) → XC cls s t)
    (hf : ∀ z ∈ locs, free z.base) (hc : cells + 1 ≤ mc) (hs : slots + 6 ≤ ms) :
    W p l e R s m args below meth c H locs cells slots (vx_MQ below Qc XC args s mc ms free) (F0 m pc ls rest) := by
  intro T hT X
  have htr : e.platform.stackTraces = false := (show e.platform.stackTraces = l.stackTraces by rw [X.admits.platform]).trans hl
  have Y := vx_rebase X (R' := { frames := R.frames, locals := R.locals, cells := 1, slots := 6 }) (Nat.le_refl _) (Nat.le_refl _) hRcells hRslots
  obtain ⟨s', hA⟩ : ∃ z, z = (T.setVm s.vm).setFrames (.invoking m args :: below) := ⟨_, rfl⟩
  rw [← hA] at Y
  have hvm : s'.vm = s.vm := by rw [hA]; rfl
  have hhp : s'.heap = H := by rw [hA]; exact hT
  have hW0 : s.WarmedH s'.vm := by rw [hvm]; exact State.WarmedH.refl s
  have hat' : ∀ w ∈ vx_atS own ic cls names, w.before args s' = true := fun w hw => vx_ot_at hW0 hvm.symm (hgood w (List.mem_cons_of_mem _ (List.mem_cons_of_mem _ hw))) (hat w hw)
  have hk' : (Cond.classLink own ik cls).before args s' = true := vx_ot_at hW0 hvm.symm (hgood _ List.mem_cons_self) hk
  have hini' : (Cond.initialized cls).before args s' = true := vx_ot_at hW0 hvm.symm (hgood _ (List.mem_cons_of_mem _ List.mem_cons_self)) hini
  have hU' : vx_Zq Bundle.tN "UNASSIGNED_STACK" Bundle.steD A s' s'.heap := by rw [hhp]; exact vx_Zq.moved hW0.alike (hU.kept hS.2.1)
  have hN' : vx_Zq Bundle.tN "SUPPRESSED_SENTINEL" Bundle.listD A s' s'.heap := by rw [hhp]; exact vx_Zq.moved hW0.alike (hN.kept hS.2.1)
  have h : ∀ w ∈ Bundle.ownAtoms own ic cls names, w.before args s' = true := vx_own hat' (vx_isRefq hU'.1) (vx_isRefq hN'.1) hU'.2.word hN'.2.word
  have hown' : s'.vm.findClass own = some m.cls := by rw [hvm]; exact hown
  have hins : (Cond.instantiable cls 6).before args s' = true := h _ (by simp [Bundle.ownAtoms])
  obtain ⟨vm₁, cX, kX, hfX, hkX, -, -, X₁, st1⟩ := Y.newCold hexec (own := own) (C := cls) (index := ik) (n := 6) hown' hk' hins hini'
    (g := F0 m pc ls rest) rfl (by rw [hb]; exact d0) (Nat.le_refl _) (Nat.le_refl _)
  generalize hT1 : (T.setVm vm₁).pushCell { cls := cX, slots := kX.instanceTypes.map defaultValue, vm := .none } = T1 at X₁ st1
  have hcat : (Value.ref T.heap.size).category = 1 := rfl
  have hcellA : T1.heap[T.heap.size]? = some (freshCell cX kX) := by rw [← hT1]; exact State.heap_pushCell_size _ _
  have d3' : decode c.code (pc + 3) = .ok (.dup, 1) := by rw [hb]; exact d3
  have d4' : decode c.code (pc + 4) = .ok (.ldc_w is, 3) := by rw [hb]; exact d4
  have hstr' : vk_R own is text sa s' := vk_R.warm hW0 hstr
  obtain ⟨U, hsteps, hrun, hend, hW, hsame, ce, hce, hO⟩ := X₁.ctorThrowS hexec htr (own := own) (cls := cls) (names := names) (ic := ic) hown' hcls hnames h (fun x hx => nomatch hx) hfX hkX hcellA (by rw [hhp, hT]; exact Nat.le_refl _) (msg := .ref sa) rfl
    (g := { method := m, pc := pc + 7, locals := ls, stack := .ref sa :: .ref T.heap.size :: .ref T.heap.size :: rest, locked := none }) rfl hsize rfl rfl (rest := rest) rfl
    (by rw [hb]; exact d7) (by rw [hb]; exact d10) hout hRframes (by simp only [List.map_cons, List.sum_cons, hcat]; omega) hlocks
  obtain ⟨f1, f2⟩ := vx_frame hsame
  rw [hhp] at f1 f2
  have hWs : s.WarmedH U.vm := State.WarmedH.trans hW0 hW
  have hcl : s.vm.findClass cls = some ce.cls := by
    have h9 := hO.cls
    rw [hvm] at h9
    exact h9
  have hall : s.sameButNew ({ U with vm := s.vm } : State) locs mc ms := by
    subst hA
    obtain ⟨e1, e2⟩ := hsame
    rw [State.setFrames_setFrames] at e1
    have h2 : (T.setVm s.vm).sameButNew ({ U with vm := s.vm } : State) [] (0 + 1) (0 + 6) := ⟨e1, e2⟩
    have h3 := X.same.trans h2
    rw [List.append_nil] at h3
    exact h3.mono hc hs
  refine ⟨U, ?_, .threw T.heap.size, hrun, hend, Or.inr ⟨T.heap.size, rfl, cls, ce, locs, hx U hWs.alike f1 (fun q hq => f2 q hq (fun z hz => nomatch hz)), hce, hO.vm, hcl, hWs, hall, hf⟩⟩
  refine st1 _ ?_
  show Steps p.tables e below (T1.setTop { method := m, pc := pc + 3, locals := ls, stack := .ref T.heap.size :: rest, locked := none }) _
  jvm_step X₁.here [X₁.here.top, hexec, d3', Value.category]
  exact X₁.ldcStringW hexec (own := own) (text := text) (index := is) (a := sa) hown' hstr'.1 hstr'.2
    (g := { method := m, pc := pc + 4, locals := ls, stack := .ref T.heap.size :: .ref T.heap.size :: rest, locked := none }) rfl d4' _ hsteps
end Ends
section Bodies
variable {l : Launch}
theorem vx_ofW {y : MethodName} {ws ws' : List Cond} {rm : Room} {Pc : Array Value → State → Prop} {Qc : Array Value → State → Outcome → State → Prop} {XC : String → State → State → Prop} {mc ms : Nat} {free : Addr → Prop} {cc : ByteArray} {maxL : Nat} {ret : Option FieldType}
    (hy : plainName y.cls = true) (hw : ws = Cond.code y cc maxL ret :: ws')
    (body : ∀ p e s m args below meth c s₁, BodyLoose p l y (headSpec ws rm) cc maxL ret e s m args below meth c s₁ → c.maxLocals = maxL → (∀ x ∈ c.exceptionTable.toList, False) → Pc args s →
      W p l e (headSpec ws rm).room s m args below meth c s.heap [] 0 0 (vx_MQ below Qc XC args s mc ms free) (entryFrame m args maxL)) : vx_Met l y ws rm Pc Qc XC mc ms free := by
  refine MetFree.of_bodyS (code := cc) (maxLocals := maxL) (ret := ret) hy ?_ ?_
  · intro args s m h hn
    obtain ⟨meth, c, h1, h2, h3, h4, h5, h6, -, -⟩ := Cond.code_spec hn (atoms_spec (ws := ws) h _ (by rw [hw]; exact List.mem_cons_self))
    exact ⟨meth, c, h1, h2, h3, h4, h5, h6⟩
  · intro p e s m args below meth c s₁ B hml hP _
    have hh0 : s₁.heap = s.heap := by rw [B.state]; rfl
    have ht : ∀ x ∈ c.exceptionTable.toList, False := by
      obtain ⟨meth9, c9, h1, h2, -, -, -, -, h7, -⟩ := Cond.code_spec B.named (atoms_spec (ws := ws) B.pre _ (by rw [hw]; exact List.mem_cons_self))
      cases Option.some.inj (h1.symm.trans B.method)
      cases Option.some.inj (h2.symm.trans (Stand.of_body B).code)
      intro x hx
      rw [Array.isEmpty_iff.mp h7] at hx
      cases hx
    obtain ⟨t, a1, o, b1, b2, b3⟩ := body p e s m args below meth c s₁ B hml ht hP s₁ hh0 (Stand.of_body B)
    exact ⟨t, o, a1, b1, b2, b3⟩
/-- the table of a body with handlers -/
theorem vx_table {p : Program} {x y : MethodName} {S : Spec} {cc bytes : ByteArray} {maxL maxL' : Nat} {ret ret' : Option FieldType} {e : Env} {s s₁ : State} {m : MethodId} {args : Array Value} {below : List Frame} {meth : Method} {c : Code} {hh : List (Nat × Nat × Nat × Nat)}
    (B : BodyLoose p l y S cc maxL ret e s m args below meth c s₁) (h : (Cond.codeWith y bytes maxL' ret' hh).before args s = true) : c.exceptionTable.toList = tableOf hh := by
  obtain ⟨m9, meth9, c9, hn9, h1, h2, -, -, h6, -⟩ := Cond.codeWith_spec h
  cases Option.some.inj (hn9.symm.trans B.named)
  cases Option.some.inj (h1.symm.trans B.method)
  cases Option.some.inj (h2.symm.trans (Stand.of_body B).code)
  rw [← h6, table_eq]
end Bodies
end VXA
/-! ===== END ===== -/
/-! ===== BEGIN a static call of a method with an exception table ===== -/
section VXS
variable {p : Program} {l : Launch} {e : Env} {R : Room} {s : State} {m : MethodId} {args : Array Value} {below : List Frame} {meth : Method} {c : Code} {T : State} {H : Heap} {locs : List Loc} {cells slots : Nat}
abbrev vx_CSW (R : Room) (s : State) (args : Array Value) (own : String) (index : Nat) (y : MethodName) (bytes : ByteArray) (maxL : Nat) (ret : Option FieldType) (hh : List (Nat × Nat × Nat × Nat)) (ws : List Cond) (rm : Room) (mc ms n : Nat) : Prop :=
  (rm.cells = mc ∧ rm.slots = ms ∧ rm.frames + 1 ≤ R.frames ∧ 8 + (maxL + 11) + rm.locals ≤ R.locals ∧ (∀ w ∈ ws, ∀ (a' : Array Value) (U : State), s.WarmedH U.vm → w.before a' U = true) ∧ Cond.codeWith y bytes maxL ret hh ∈ ws) ∧
  (Cond.codeWith y bytes maxL ret hh).before args s = true ∧ (Cond.initialized y.cls).before args s = true ∧ (y.cls ≠ "java/lang/invoke/MethodHandle" ∧ y.cls ≠ "java/lang/invoke/VarHandle") ∧
  (∀ sig, parseMethodDescriptor y.desc = some sig → n = sig.parameters.length) ∧ (Cond.methodLink own index y).before args s = true ∧ (Cond.static y).before args s = true
theorem vx_cwSW {own : String} {index maxL mc ms : Nat} {y : MethodName} {bytes : ByteArray} {ret : Option FieldType} {hh : List (Nat × Nat × Nat × Nat)} {Ts ws ws' : List Cond} {rm : Room} (n : Nat) (ht : ∀ w ∈ Ts, w.before args s = true) (hT : GoodIn Ts (va_wsS own index y ws)) (hw : ws = Cond.codeWith y bytes maxL ret hh :: ws') (hrc : rm.cells = mc) (hrs : rm.slots = ms)
    (hd : y.cls ≠ "java/lang/invoke/MethodHandle" ∧ y.cls ≠ "java/lang/invoke/VarHandle" ∧ (parseMethodDescriptor y.desc).map (fun d => d.parameters.length) = some n) (hR : rm.frames + 1 ≤ R.frames ∧ 8 + (maxL + 11) + rm.locals ≤ R.locals) :
    vx_CSW R s args own index y bytes maxL ret hh ws rm mc ms n := by
  have ok : ∀ w ∈ va_wsS own index y ws, w.before args s = true := fun w h => ht w (hT w h).1
  have hG : GoodIn Ts ws := fun w h => hT w (by unfold va_wsS; exact List.mem_append_right _ h)
  have hc : Cond.codeWith y bytes maxL ret hh ∈ ws := by rw [hw]; exact List.mem_cons_self
  refine ⟨⟨hrc, hrs, hR.1, hR.2, pay_in ht hG, hc⟩, ht _ (hG _ hc).1, ok _ (by simp [va_wsS]), ⟨hd.1, hd.2.1⟩, fun sig h => ?_, ok _ (by simp [va_wsS]), ok _ (by simp [va_wsS])⟩
  have h2 := hd.2.2
  rw [h] at h2
  exact (Option.some.inj h2).symm
theorem vx_callSW (X : Stand p l e R s m args below meth c T locs cells slots) (hexec : p.tables.exec = Jvm.exec) {own : String} {index : Nat} {y : MethodName} {bytes : ByteArray} {maxL : Nat} {ret : Option FieldType} {hh : List (Nat × Nat × Nat × Nat)}
    (hown : s.vm.findClass own = some m.cls) (hlink : (Cond.methodLink own index y).before args s = true) (hstat : (Cond.static y).before args s = true) (hinit : (Cond.initialized y.cls).before args s = true)
    (hcode : (Cond.codeWith y bytes maxL ret hh).before args s = true) (hy : y.cls ≠ "java/lang/invoke/MethodHandle" ∧ y.cls ≠ "java/lang/invoke/VarHandle")
    {W9 : Nat} {Pre : Pt → Array Value → Prop} {Post : Pt → Array Value → Option Value → Pt → Prop} (hK : Back l R p e below s args y 3 W9 Pre Post)
    {g : JFrame} (hg : g.method = m) (hsize : g.locals.size = c.maxLocals) {argsL rest : List Value} (hlen : ∀ sig, parseMethodDescriptor y.desc = some sig → argsL.length = sig.parameters.length)
    (hstack : g.stack = argsL.reverse ++ rest) (hW : 2 * g.monitorRoom + (rest.map fun v => v.category).sum ≤ W9) (hdg : decode c.code g.pc = .ok (.invokestatic index, 3))
    (hpre : ∀ vm₁, s.WarmedH vm₁ → Pre ⟨T.setVm vm₁, locs, cells, slots⟩ argsL.toArray) :
    ∃ (v : Option Value) (vm₁ : Vm) (B : Pt), s.WarmedH vm₁ ∧ Stand p l e R s m args below meth c B.U B.locs B.cells B.slots ∧ Post ⟨T.setVm vm₁, locs, cells, slots⟩ argsL.toArray v B ∧
      ∀ target, Steps p.tables e below (B.U.setTop { g with pc := g.pc + 3, stack := v.toList ++ rest }) target → Steps p.tables e below (T.setTop g) target := by
  obtain ⟨mk, methM, cM, hnamed, hmethM, -, -, -, -, -, -, hsigM⟩ := Cond.codeWith_spec hcode
  have hstatic : methM.isStatic = true := Cond.static_spec hnamed hmethM hstat
  obtain ⟨kP, hkP, -⟩ := className_of_methodNamed hnamed
  have hinitP : kP.init = .initialized := Cond.initialized_spec (findClass_of_methodNamed hnamed) hkP hinit
  obtain ⟨vm₁, X₁, hstep₁⟩ := X.invokestatic hexec hown hlink hnamed hmethM hstatic hkP hinitP hy (g := g) hg (argsL := argsL) (rest := rest) (hlen _ hsigM) hstack hdg
  obtain ⟨v, B, X', hpost, hsteps⟩ := hK m meth c ⟨T.setVm vm₁, locs, cells, slots⟩ { g with stack := rest } (.invokestatic index) mk argsL.toArray X₁ hg hsize hdg hW (X₁.named hnamed) (hpre vm₁ X₁.warmed)
  exact ⟨v, vm₁, B, X₁.warmed, X', hpost, fun target h => hstep₁ _ fun acts => by rw [doInvoke_state]; exact hsteps.trans h⟩
theorem vx_runSW {y : MethodName} {bytes cc : ByteArray} {maxL nL mc ms n index : Nat} {ret : Option FieldType} {hh : List (Nat × Nat × Nat × Nat)} {ws : List Cond} {rm : Room} {Pc : Array Value → State → Prop} {Qc : Array Value → State → Outcome → State → Prop} {free : Addr → Prop} {Ts : List Cond} {own : String} {As rest : List Value} {g : JFrame}
    (S : CallFix p m c cc nL s args Ts own) (hM : Met l y ws rm Pc Qc mc ms free) (cw : vx_CSW R s args own index y bytes maxL ret hh ws rm mc ms n) (hp : PreS s H Pc As)
    (hg : g.method = m) (hn : As.length = n) (hsize : g.locals.size = nL) (hstack : g.stack = As.reverse ++ rest) (hW : 2 * g.monitorRoom + (rest.map fun v => v.category).sum ≤ 8) (hdg : decode cc g.pc = .ok (.invokestatic index, 3)) (hf : cells + mc ≤ R.cells ∧ slots + ms ≤ R.slots) :
    va_Run p l e R s m args below meth c H locs cells slots mc ms g rest (Qc As.toArray) (free) := by
  obtain ⟨⟨hrc, hrs, hfr, hlo, hws, hcw⟩, hcode, hini, hy, hlen, hl, hstt⟩ := cw
  have hK : Back l R p e below s args y 3 8 (PreOf R mc ms Pc) (PostOf Qc mc ms free) := va_backW (hh := hh) (bytes := bytes) (maxL := maxL) (ret := ret) hM hp.1 hrc hrs hfr hlo hws hcw (fun a' U hW => word_at hW (Or.inl (by first | rfl | simp [Cond.onTables, Cond.keeps, Cond.steady])) hini)
  obtain ⟨hx, hb, hml, ho, -⟩ := S
  intro T hT X
  obtain ⟨v, vm₁, ⟨U', l2, c2, s2⟩, hW₁, X', ⟨g', mk, t, L, e1, e2, hq, h1, hL, h2, h3⟩, st⟩ := vx_callSW X hx (hh := hh) (bytes := bytes) (maxL := maxL) (ret := ret) ho hl hstt hini hcode hy hK hg (hsize.trans hml.symm) (argsL := As) (rest := rest) (fun sig h => hn.trans (hlen sig h)) hstack hW (by rw [hb]; exact hdg)
    (fun vm₁ hW₁ => ⟨hf.1, hf.2, hp.2 (T.setVm vm₁) hT hW₁⟩)
  dsimp only [Pt.U, Pt.locs, Pt.cells, Pt.slots] at X' e1 e2 h1 h2 h3 st
  subst h1; subst h2; subst h3
  exact ⟨v, (T.setVm vm₁).calling g' mk As.toArray, t, U', L, hT, X', hL, e1, e2, hq, st⟩
/-- a thing of a world lies in the heap -/
theorem vx_lt {D : va_G} {cl : List vw_C} {ws : va_W} {H1 : Heap} (h : va_P D cl ws H1) {k : Nat} {q : Nat × va_E} (hk : ws[k]? = some q) : q.1 < H1.size := (h k q hk).lt
end VXS
/-! ===== END ===== -/
/-! ===== BEGIN methods with a table of their own: called by a name, returning or throwing ===== -/
section VXH
/-! vx_backW, vx_callVX, vx_callSX, vx_callVW, vx_runVW, vx_runVX, vx_runSX, vx_ofWH follow the same proofs as their sisters above (Free/Laws.lean, Shelf42/LK1.lean); vx_outP calls Shelf42/NT130.lean (outThrough). -/
section
variable {l : Launch} {R : Room} {p : Program} {e : Env} {below : List Frame} {s : State} {sargs : Array Value} {y : MethodName} {len W9 : Nat}
theorem vx_backW {ws : List Cond} {rm : Room} {Pc : Array Value → State → Prop} {Qc : Array Value → State → Outcome → State → Prop} {XC : String → State → State → Prop} {mc ms : Nat} {free : Addr → Prop} {bytes : ByteArray} {maxL : Nat} {ret : Option FieldType} {hh : List (Nat × Nat × Nat × Nat)}
    (hM : vx_Met l y ws rm Pc Qc XC mc ms free) (hblind : FrameBlind Pc) (hrc : rm.cells = mc) (hrs : rm.slots = ms)
    (hframes : rm.frames + 1 ≤ R.frames) (hlocals : W9 + (maxL + 11) + rm.locals ≤ R.locals)
    (hws : ∀ w ∈ ws, ∀ a' U, s.WarmedH U.vm → w.before a' U = true) (hcode : Cond.codeWith y bytes maxL ret hh ∈ ws) (hinit : ∀ a' U, s.WarmedH U.vm → (Cond.initialized y.cls).before a' U = true) :
    vx_Back l R p e below s sargs y len W9 (PreOf R mc ms Pc) (PostOf Qc mc ms free) (vx_Post XC mc ms free) := by
  intro m meth c A g ig mk a X hg hsize hdg hW hn hp
  have h1 : (headSpec ws rm).pre.before a A.U = true := atoms_intro fun w hw => hws w hw _ _ X.warmed
  have h2 : (Cond.codeWith y bytes maxL ret hh).before a A.U = true := hws _ hcode _ _ X.warmed
  have h3 : (Cond.initialized y.cls).before a A.U = true := hinit _ _ X.warmed
  have h4 : A.cells + (headSpec ws rm).room.cells ≤ R.cells := by rw [show (headSpec ws rm).room.cells = mc from hrc]; exact hp.1
  have h5 : A.slots + (headSpec ws rm).room.slots ≤ R.slots := by rw [show (headSpec ws rm).room.slots = ms from hrs]; exact hp.2.1
  have hPc : Pc a (A.U.calling g mk a) := hblind _ _ _ _ hp.2.2
  obtain ⟨U, Ls, c0, s0⟩ := A
  dsimp only [Pt.U, Pt.locs, Pt.cells, Pt.slots] at h1 h2 h3 h4 h5 X hn hPc ⊢
  obtain ⟨m9, methY, cY, hn9, hmY, hcY, -, hlY, -⟩ := Cond.codeWith_spec h2
  cases Option.some.inj (hn9.symm.trans hn)
  obtain ⟨kY, hkY, -⟩ := className_of_methodNamed hn
  have hinitY : kY.init = .initialized := Cond.initialized_spec (findClass_of_methodNamed hn) hkY h3
  have h : At U g.method c below := by rw [hg]; exact X.here
  have hlocals9 : W9 + (maxL + 11) + (headSpec ws rm).room.locals ≤ R.locals := hlocals
  have happ : (headSpec ws rm).appliesLoose y e.platform (U.calling g mk a) = true :=
    Spec.appliesLoose_calling (g := g) h hdg hn hkY hinitY
      (X.room_calling (g := g) (R' := (headSpec ws rm).room) hsize hmY hcY hframes (by rw [hlY]; omega) h4 h5) h1
  obtain ⟨mid, hmid⟩ := h.above
  have hfr : (U.setTop g).frames = (.java g :: mid) ++ below := by rw [State.frames_setTop' g h.top, hmid]; rfl
  obtain ⟨o, s₂, hsteps, -, hend, hq⟩ := Steps.callFree hM p X.admits X.cas X.clock (acts := []) hfr happ hPc trivial
  have hq' : vx_Q Qc XC mc ms free a (U.calling g mk a) o s₂ := hq
  rw [State.frames_setTop' g h.top] at hend
  obtain ⟨g₀, hg0⟩ := Option.isSome_iff_exists.mp h.top
  obtain ⟨r, hr⟩ := State.topJava?_eq_some.mp hg0
  have hr' : (({ U with heap := s₂.heap, slotsUsed := s₂.slotsUsed } : State).setVm s₂.vm).frames = .java g₀ :: r := hr
  rcases hq' with ⟨hqc, L, hfe, hL⟩ | ⟨q, rfl, E, ce, L, hx, hce, hcv, hcl, hW₂, hsm, hL⟩
  · obtain ⟨⟨v, rfl⟩, hW₂, e2, q2, q3, q4, q5, q6⟩ := id hfe
    have e3 : s₂ = ({ (U.calling g mk a).setFrames s₂.frames with heap := s₂.heap, slotsUsed := s₂.slotsUsed } : State).setVm s₂.vm := by
      have : s₂ = ({ s₂ with vm := (U.calling g mk a).vm } : State).setVm s₂.vm := rfl
      rw [e2] at this
      exact this
    obtain ⟨c₂, i₂, len₂, hc₂, hd₂, hf₂⟩ := hend
    have hW' : U.WarmedH s₂.vm := hW₂
    have hcc : c₂ = c := by
      have h1 : s₂.code? g.method = U.code? g.method := by
        rw [State.code?_eq, State.code?_eq, hW'.alike.method?]
      exact Option.some.inj (hc₂.symm.trans (h1.trans h.code))
    subst hcc
    have hlen : len₂ = len := by rw [hdg] at hd₂; cases hd₂; rfl
    subst hlen
    have hs₂ : s₂ = (({ U with heap := s₂.heap, slotsUsed := s₂.slotsUsed } : State).setVm s₂.vm).setTop { g with pc := g.pc + len₂, stack := v.toList ++ g.stack } := by
      refine e3.trans ?_
      rw [hf₂, State.calling_eq h.top, State.setFrames_setFrames, State.setTop_of_frames _ hr', hr]
      rfl
    have hsame : U.sameButNew ({ U with heap := s₂.heap, slotsUsed := s₂.slotsUsed } : State) L mc ms := by
      refine ⟨?_, q2, q3, q4, q5, q6⟩
      obtain ⟨t, ht, -⟩ := State.frames_cons hr
      show ({ U with heap := s₂.heap, slotsUsed := s₂.slotsUsed } : State) = { U.setFrames U.frames with heap := s₂.heap, slotsUsed := s₂.slotsUsed }
      rw [State.setFrames_self ht]
    subst hg
    refine Or.inl ⟨v, ⟨(({ U with heap := s₂.heap, slotsUsed := s₂.slotsUsed } : State).setVm s₂.vm), Ls ++ L, c0 + mc, s0 + ms⟩,
      ⟨X.admits, X.cas, X.clock, X.frames, X.room, X.hears, X.method, X.code, (X.here.setHeapUsed s₂.heap s₂.slotsUsed).setVm hW'.alike, X.tail, State.WarmedH.trans X.warmed hW', X.limits, X.bytes, X.same.trans (hsame.setVm s.vm)⟩,
      ⟨g, mk, s₂, L, rfl, rfl, hqc, rfl, hL, rfl, rfl⟩, ?_⟩
    show Steps p.tables e below _ ((({ U with heap := s₂.heap, slotsUsed := s₂.slotsUsed } : State).setVm s₂.vm).setTop { g with pc := g.pc + len₂, stack := v.toList ++ g.stack })
    rw [← hs₂]
    exact hsteps
  · obtain ⟨e2, q2, q3, q4, q5, q6⟩ := id hsm
    have e3 : s₂ = ({ (U.calling g mk a).setFrames s₂.frames with heap := s₂.heap, slotsUsed := s₂.slotsUsed } : State).setVm s₂.vm := by
      have : s₂ = ({ s₂ with vm := (U.calling g mk a).vm } : State).setVm s₂.vm := rfl
      rw [e2] at this
      exact this
    have hf₂ : s₂.frames = .throwing q :: .java g :: U.frames.tail := hend
    have hW' : U.WarmedH s₂.vm := hW₂
    have hs₂ : s₂ = ((({ U with heap := s₂.heap, slotsUsed := s₂.slotsUsed } : State).setVm s₂.vm).setTop g).pushFrame (.throwing q) := by
      refine e3.trans ?_
      rw [hf₂, State.calling_eq h.top, State.setFrames_setFrames, State.pushFrame, State.frames_setTop _ hr', State.setTop_of_frames _ hr', State.setFrames_setFrames, hr]
      rfl
    have hsame : U.sameButNew ({ U with heap := s₂.heap, slotsUsed := s₂.slotsUsed } : State) L mc ms := by
      refine ⟨?_, q2, q3, q4, q5, q6⟩
      obtain ⟨t, ht, -⟩ := State.frames_cons hr
      show ({ U with heap := s₂.heap, slotsUsed := s₂.slotsUsed } : State) = { U.setFrames U.frames with heap := s₂.heap, slotsUsed := s₂.slotsUsed }
      rw [State.setFrames_self ht]
    subst hg
    refine Or.inr ⟨q, ⟨(({ U with heap := s₂.heap, slotsUsed := s₂.slotsUsed } : State).setVm s₂.vm), Ls ++ L, c0 + mc, s0 + ms⟩,
      ⟨X.admits, X.cas, X.clock, X.frames, X.room, X.hears, X.method, X.code, (X.here.setHeapUsed s₂.heap s₂.slotsUsed).setVm hW'.alike, X.tail, State.WarmedH.trans X.warmed hW', X.limits, X.bytes, X.same.trans (hsame.setVm s.vm)⟩,
      ⟨g, mk, s₂, L, E, ce, rfl, rfl, hx, hce, hcv, hcl, rfl, hL, rfl, rfl⟩, ?_⟩
    show Steps p.tables e below _ (((({ U with heap := s₂.heap, slotsUsed := s₂.slotsUsed } : State).setVm s₂.vm).setTop g).pushFrame (.throwing q))
    rw [← hs₂]
    exact hsteps
end
variable {p : Program} {l : Launch} {e : Env} {R : Room} {s : State} {m : MethodId} {args : Array Value} {below : List Frame} {meth : Method} {c : Code} {T : State} {H : Heap} {locs : List Loc} {cells slots : Nat}
theorem vx_callVX (X : Stand p l e R s m args below meth c T locs cells slots) (hexec : p.tables.exec = Jvm.exec) {own C : String} {index : Nat} {y : MethodName} {bytes : ByteArray} {maxL : Nat} {ret : Option FieldType} {hh : List (Nat × Nat × Nat × Nat)}
    (hown : s.vm.findClass own = some m.cls) (hlink : (Cond.methodLink own index y).before args s = true) (hinst : (Cond.instanceMethod y).before args s = true) (hsel : (Cond.selects C y y).before args s = true)
    (hcode : (Cond.codeWith y bytes maxL ret hh).before args s = true) (hy : y.cls ≠ "java/lang/invoke/MethodHandle" ∧ y.cls ≠ "java/lang/invoke/VarHandle")
    {W9 : Nat} {Pre : Pt → Array Value → Prop} {Post : Pt → Array Value → Option Value → Pt → Prop} {PostX : Pt → Array Value → Addr → Pt → Prop} (hK : vx_Back l R p e below s args y 3 W9 Pre Post PostX)
    {b : Addr} {cellB : Cell} (hcell : T.heap[b]? = some cellB) (hobj : cellB.vm.isStatics = false) (hcls : s.vm.findClass C = some cellB.cls)
    {g : JFrame} (hg : g.method = m) (hsize : g.locals.size = c.maxLocals) {argsL rest : List Value} (hlen : ∀ sig, parseMethodDescriptor y.desc = some sig → argsL.length = sig.parameters.length)
    (hstack : g.stack = argsL.reverse ++ .ref b :: rest) (hW : 2 * g.monitorRoom + (rest.map fun v => v.category).sum ≤ W9) (hdg : decode c.code g.pc = .ok (.invokevirtual index, 3))
    (hpre : ∀ vm₁, s.WarmedH vm₁ → Pre ⟨T.setVm vm₁, locs, cells, slots⟩ (Value.ref b :: argsL).toArray) :
    (∃ (v : Option Value) (vm₁ : Vm) (B : Pt), s.WarmedH vm₁ ∧ Stand p l e R s m args below meth c B.U B.locs B.cells B.slots ∧ Post ⟨T.setVm vm₁, locs, cells, slots⟩ (Value.ref b :: argsL).toArray v B ∧
      ∀ target, Steps p.tables e below (B.U.setTop { g with pc := g.pc + 3, stack := v.toList ++ rest }) target → Steps p.tables e below (T.setTop g) target) ∨
    (∃ (q : Addr) (vm₁ : Vm) (B : Pt), s.WarmedH vm₁ ∧ Stand p l e R s m args below meth c B.U B.locs B.cells B.slots ∧ PostX ⟨T.setVm vm₁, locs, cells, slots⟩ (Value.ref b :: argsL).toArray q B ∧
      Steps p.tables e below (T.setTop g) ((B.U.setTop { g with stack := rest }).pushFrame (.throwing q))) := by
  obtain ⟨mk, methM, hnamed, hmethM, hstM, habM⟩ := Cond.instanceMethod_spec hinst
  obtain ⟨m8, methM', cM, hn8, hmethM', -, -, -, -, -, -, hsigM⟩ := Cond.codeWith_spec hcode
  cases Option.some.inj (hn8.symm.trans hnamed)
  cases hmethM.symm.trans hmethM'
  obtain ⟨c2, r2, m2, q1, q2, q3, q4, kP, hkP, hkPi⟩ := Cond.selects_spec hsel
  cases hcls.symm.trans q1
  cases (State.methodFound?_of_named hnamed hy).symm.trans q2
  cases hnamed.symm.trans q3
  have hselP : selectMethod e.platform s.vm cellB.cls mk = .method mk := by rw [Launch.admits_selectMethod X.admits]; exact q4
  obtain ⟨vm₁, X₁, hstep₁⟩ := X.invokevirtual hexec hown hlink hnamed hmethM hstM hkP hkPi hy (a := b) (cell := cellB) hcell
    (fun z h => by rw [h] at hobj; cases hobj) hselP hmethM habM hkP hkPi (g := g) hg (argsL := argsL) (rest := rest) (hlen _ hsigM) hstack hdg
  rcases hK m meth c ⟨T.setVm vm₁, locs, cells, slots⟩ { g with stack := rest } (.invokevirtual index) mk (Value.ref b :: argsL).toArray X₁ hg hsize hdg hW (X₁.named hnamed) (hpre vm₁ X₁.warmed) with ⟨v, B, X', hpost, hsteps⟩ | ⟨q, B, X', hpost, hsteps⟩
  · exact Or.inl ⟨v, vm₁, B, X₁.warmed, X', hpost, fun target h => hstep₁ _ fun acts => by rw [doInvoke_state]; exact hsteps.trans h⟩
  · exact Or.inr ⟨q, vm₁, B, X₁.warmed, X', hpost, hstep₁ _ fun acts => by rw [doInvoke_state]; exact hsteps⟩
theorem vx_callSX (X : Stand p l e R s m args below meth c T locs cells slots) (hexec : p.tables.exec = Jvm.exec) {own : String} {index : Nat} {y : MethodName} {bytes : ByteArray} {maxL : Nat} {ret : Option FieldType} {hh : List (Nat × Nat × Nat × Nat)}
    (hown : s.vm.findClass own = some m.cls) (hlink : (Cond.methodLink own index y).before args s = true) (hstat : (Cond.static y).before args s = true) (hinit : (Cond.initialized y.cls).before args s = true)
    (hcode : (Cond.codeWith y bytes maxL ret hh).before args s = true) (hy : y.cls ≠ "java/lang/invoke/MethodHandle" ∧ y.cls ≠ "java/lang/invoke/VarHandle")
    {W9 : Nat} {Pre : Pt → Array Value → Prop} {Post : Pt → Array Value → Option Value → Pt → Prop} {PostX : Pt → Array Value → Addr → Pt → Prop} (hK : vx_Back l R p e below s args y 3 W9 Pre Post PostX)
    {g : JFrame} (hg : g.method = m) (hsize : g.locals.size = c.maxLocals) {argsL rest : List Value} (hlen : ∀ sig, parseMethodDescriptor y.desc = some sig → argsL.length = sig.parameters.length)
    (hstack : g.stack = argsL.reverse ++ rest) (hW : 2 * g.monitorRoom + (rest.map fun v => v.category).sum ≤ W9) (hdg : decode c.code g.pc = .ok (.invokestatic index, 3))
    (hpre : ∀ vm₁, s.WarmedH vm₁ → Pre ⟨T.setVm vm₁, locs, cells, slots⟩ argsL.toArray) :
    (∃ (v : Option Value) (vm₁ : Vm) (B : Pt), s.WarmedH vm₁ ∧ Stand p l e R s m args below meth c B.U B.locs B.cells B.slots ∧ Post ⟨T.setVm vm₁, locs, cells, slots⟩ argsL.toArray v B ∧
      ∀ target, Steps p.tables e below (B.U.setTop { g with pc := g.pc + 3, stack := v.toList ++ rest }) target → Steps p.tables e below (T.setTop g) target) ∨
    (∃ (q : Addr) (vm₁ : Vm) (B : Pt), s.WarmedH vm₁ ∧ Stand p l e R s m args below meth c B.U B.locs B.cells B.slots ∧ PostX ⟨T.setVm vm₁, locs, cells, slots⟩ argsL.toArray q B ∧
      Steps p.tables e below (T.setTop g) ((B.U.setTop { g with stack := rest }).pushFrame (.throwing q))) := by
  obtain ⟨mk, methM, cM, hnamed, hmethM, -, -, -, -, -, -, hsigM⟩ := Cond.codeWith_spec hcode
  have hstatic : methM.isStatic = true := Cond.static_spec hnamed hmethM hstat
  obtain ⟨kP, hkP, -⟩ := className_of_methodNamed hnamed
  have hinitP : kP.init = .initialized := Cond.initialized_spec (findClass_of_methodNamed hnamed) hkP hinit
  obtain ⟨vm₁, X₁, hstep₁⟩ := X.invokestatic hexec hown hlink hnamed hmethM hstatic hkP hinitP hy (g := g) hg (argsL := argsL) (rest := rest) (hlen _ hsigM) hstack hdg
  rcases hK m meth c ⟨T.setVm vm₁, locs, cells, slots⟩ { g with stack := rest } (.invokestatic index) mk argsL.toArray X₁ hg hsize hdg hW (X₁.named hnamed) (hpre vm₁ X₁.warmed) with ⟨v, B, X', hpost, hsteps⟩ | ⟨q, B, X', hpost, hsteps⟩
  · exact Or.inl ⟨v, vm₁, B, X₁.warmed, X', hpost, fun target h => hstep₁ _ fun acts => by rw [doInvoke_state]; exact hsteps.trans h⟩
  · exact Or.inr ⟨q, vm₁, B, X₁.warmed, X', hpost, hstep₁ _ fun acts => by rw [doInvoke_state]; exact hsteps⟩
theorem vx_callVW (X : Stand p l e R s m args below meth c T locs cells slots) (hexec : p.tables.exec = Jvm.exec) {own C : String} {index : Nat} {y : MethodName} {bytes : ByteArray} {maxL : Nat} {ret : Option FieldType} {hh : List (Nat × Nat × Nat × Nat)}
    (hown : s.vm.findClass own = some m.cls) (hlink : (Cond.methodLink own index y).before args s = true) (hinst : (Cond.instanceMethod y).before args s = true) (hsel : (Cond.selects C y y).before args s = true)
    (hcode : (Cond.codeWith y bytes maxL ret hh).before args s = true) (hy : y.cls ≠ "java/lang/invoke/MethodHandle" ∧ y.cls ≠ "java/lang/invoke/VarHandle")
    {W9 : Nat} {Pre : Pt → Array Value → Prop} {Post : Pt → Array Value → Option Value → Pt → Prop} (hK : Back l R p e below s args y 3 W9 Pre Post)
    {b : Addr} {cellB : Cell} (hcell : T.heap[b]? = some cellB) (hobj : cellB.vm.isStatics = false) (hcls : s.vm.findClass C = some cellB.cls)
    {g : JFrame} (hg : g.method = m) (hsize : g.locals.size = c.maxLocals) {argsL rest : List Value} (hlen : ∀ sig, parseMethodDescriptor y.desc = some sig → argsL.length = sig.parameters.length)
    (hstack : g.stack = argsL.reverse ++ .ref b :: rest) (hW : 2 * g.monitorRoom + (rest.map fun v => v.category).sum ≤ W9) (hdg : decode c.code g.pc = .ok (.invokevirtual index, 3))
    (hpre : ∀ vm₁, s.WarmedH vm₁ → Pre ⟨T.setVm vm₁, locs, cells, slots⟩ (Value.ref b :: argsL).toArray) :
    ∃ (v : Option Value) (vm₁ : Vm) (B : Pt), s.WarmedH vm₁ ∧ Stand p l e R s m args below meth c B.U B.locs B.cells B.slots ∧ Post ⟨T.setVm vm₁, locs, cells, slots⟩ (Value.ref b :: argsL).toArray v B ∧
      ∀ target, Steps p.tables e below (B.U.setTop { g with pc := g.pc + 3, stack := v.toList ++ rest }) target → Steps p.tables e below (T.setTop g) target := by
  obtain ⟨mk, methM, hnamed, hmethM, hstM, habM⟩ := Cond.instanceMethod_spec hinst
  obtain ⟨m8, methM', cM, hn8, hmethM', -, -, -, -, -, -, hsigM⟩ := Cond.codeWith_spec hcode
  cases Option.some.inj (hn8.symm.trans hnamed)
  cases hmethM.symm.trans hmethM'
  obtain ⟨c2, r2, m2, q1, q2, q3, q4, kP, hkP, hkPi⟩ := Cond.selects_spec hsel
  cases hcls.symm.trans q1
  cases (State.methodFound?_of_named hnamed hy).symm.trans q2
  cases hnamed.symm.trans q3
  have hselP : selectMethod e.platform s.vm cellB.cls mk = .method mk := by rw [Launch.admits_selectMethod X.admits]; exact q4
  obtain ⟨vm₁, X₁, hstep₁⟩ := X.invokevirtual hexec hown hlink hnamed hmethM hstM hkP hkPi hy (a := b) (cell := cellB) hcell
    (fun z h => by rw [h] at hobj; cases hobj) hselP hmethM habM hkP hkPi (g := g) hg (argsL := argsL) (rest := rest) (hlen _ hsigM) hstack hdg
  obtain ⟨v, B, X', hpost, hsteps⟩ := hK m meth c ⟨T.setVm vm₁, locs, cells, slots⟩ { g with stack := rest } (.invokevirtual index) mk (Value.ref b :: argsL).toArray X₁ hg hsize hdg hW (X₁.named hnamed) (hpre vm₁ X₁.warmed)
  exact ⟨v, vm₁, B, X₁.warmed, X', hpost, fun target h => hstep₁ _ fun acts => by rw [doInvoke_state]; exact hsteps.trans h⟩
abbrev vx_CVW (R : Room) (s : State) (args : Array Value) (own C : String) (index : Nat) (y : MethodName) (bytes : ByteArray) (maxL : Nat) (ret : Option FieldType) (hh : List (Nat × Nat × Nat × Nat)) (ws : List Cond) (rm : Room) (mc ms n : Nat) : Prop :=
  (rm.cells = mc ∧ rm.slots = ms ∧ rm.frames + 1 ≤ R.frames ∧ 8 + (maxL + 11) + rm.locals ≤ R.locals ∧ (∀ w ∈ ws, ∀ (a' : Array Value) (U : State), s.WarmedH U.vm → w.before a' U = true) ∧ Cond.codeWith y bytes maxL ret hh ∈ ws) ∧
  (Cond.codeWith y bytes maxL ret hh).before args s = true ∧ (Cond.initialized y.cls).before args s = true ∧ (y.cls ≠ "java/lang/invoke/MethodHandle" ∧ y.cls ≠ "java/lang/invoke/VarHandle") ∧
  (∀ sig, parseMethodDescriptor y.desc = some sig → n = sig.parameters.length) ∧ (Cond.methodLink own index y).before args s = true ∧ (Cond.instanceMethod y).before args s = true ∧ (Cond.selects C y y).before args s = true
theorem vx_cwVW {own C : String} {index maxL mc ms : Nat} {y : MethodName} {bytes : ByteArray} {ret : Option FieldType} {hh : List (Nat × Nat × Nat × Nat)} {Ts ws ws' : List Cond} {rm : Room} (n : Nat) (ht : ∀ w ∈ Ts, w.before args s = true) (hT : GoodIn Ts (wsV own index C y ws)) (hw : ws = Cond.codeWith y bytes maxL ret hh :: ws') (hrc : rm.cells = mc) (hrs : rm.slots = ms)
    (hd : y.cls = C ∧ y.cls ≠ "java/lang/invoke/MethodHandle" ∧ y.cls ≠ "java/lang/invoke/VarHandle" ∧ (parseMethodDescriptor y.desc).map (fun d => d.parameters.length) = some n) (hR : rm.frames + 1 ≤ R.frames ∧ 8 + (maxL + 11) + rm.locals ≤ R.locals) :
    vx_CVW R s args own C index y bytes maxL ret hh ws rm mc ms n := by
  obtain ⟨hC, hd⟩ := hd
  subst hC
  have ok : ∀ w ∈ wsV own index y.cls y ws, w.before args s = true := fun w h => ht w (hT w h).1
  have hG : GoodIn Ts ws := fun w h => hT w (by unfold wsV; exact List.mem_append_right _ h)
  have hc : Cond.codeWith y bytes maxL ret hh ∈ ws := by rw [hw]; exact List.mem_cons_self
  refine ⟨⟨hrc, hrs, hR.1, hR.2, pay_in ht hG, hc⟩, ht _ (hG _ hc).1, ok _ (by simp [wsV]), ⟨hd.1, hd.2.1⟩, fun sig h => ?_, ok _ (by simp [wsV]), ok _ (by simp [wsV]), ok _ (by simp [wsV])⟩
  have h2 := hd.2.2
  rw [h] at h2
  exact (Option.some.inj h2).symm
theorem vx_runVW {y : MethodName} {bytes cc : ByteArray} {maxL nL mc ms n index : Nat} {ret : Option FieldType} {hh : List (Nat × Nat × Nat × Nat)} {ws : List Cond} {rm : Room} {Pc : Array Value → State → Prop} {Qc : Array Value → State → Outcome → State → Prop} {free : Addr → Prop} {Ts : List Cond} {own C : String} {b : Addr} {As rest : List Value} {g : JFrame}
    (S : CallFix p m c cc nL s args Ts own) (hM : Met l y ws rm Pc Qc mc ms free) (cw : vx_CVW R s args own C index y bytes maxL ret hh ws rm mc ms n) (hp : PreV s H C b Pc As)
    (hg : g.method = m) (hn : As.length = n) (hsize : g.locals.size = nL) (hstack : g.stack = As.reverse ++ .ref b :: rest) (hW : 2 * g.monitorRoom + (rest.map fun v => v.category).sum ≤ 8) (hdg : decode cc g.pc = .ok (.invokevirtual index, 3)) (hf : cells + mc ≤ R.cells ∧ slots + ms ≤ R.slots) :
    va_Run p l e R s m args below meth c H locs cells slots mc ms g rest (Qc (Value.ref b :: As).toArray) free := by
  obtain ⟨⟨hrc, hrs, hfr, hlo, hws, hcw⟩, hcode, hini, hy, hlen, hl, hin, hse⟩ := cw
  have hK : Back l R p e below s args y 3 8 (PreOf R mc ms Pc) (PostOf Qc mc ms free) := va_backW (hh := hh) (bytes := bytes) (maxL := maxL) (ret := ret) hM hp.1 hrc hrs hfr hlo hws hcw (fun a' U hW => word_at hW (Or.inl (by first | rfl | simp [Cond.onTables, Cond.keeps, Cond.steady])) hini)
  obtain ⟨hx, hb, hml, ho, -⟩ := S
  obtain ⟨-, ⟨cellB, hcB, hoB, hclB⟩, hPc⟩ := hp
  intro T hT X
  obtain ⟨v, vm₁, ⟨U', l2, c2, s2⟩, hW₁, X', ⟨g', mk, t, L, e1, e2, hq, h1, hL, h2, h3⟩, st⟩ := vx_callVW X hx (C := C) (hh := hh) (bytes := bytes) (maxL := maxL) (ret := ret) ho hl hin hse hcode hy hK (by rw [hT]; exact hcB) hoB hclB hg (hsize.trans hml.symm) (argsL := As) (rest := rest) (fun sig h => hn.trans (hlen sig h)) hstack hW (by rw [hb]; exact hdg)
    (fun vm₁ hW₁ => ⟨hf.1, hf.2, hPc (T.setVm vm₁) hT hW₁⟩)
  dsimp only [Pt.U, Pt.locs, Pt.cells, Pt.slots] at X' e1 e2 h1 h2 h3 st
  subst h1; subst h2; subst h3
  exact ⟨v, (T.setVm vm₁).calling g' mk (Value.ref b :: As).toArray, t, U', L, hT, X', hL, e1, e2, hq, st⟩
section
variable {y : MethodName} {bytes cc : ByteArray} {maxL nL mc ms n index : Nat} {ret : Option FieldType} {ws : List Cond} {rm : Room} {Pc : Array Value → State → Prop} {Qc : Array Value → State → Outcome → State → Prop} {XC : String → State → State → Prop} {free : Addr → Prop} {Ts : List Cond} {own C : String} {b : Addr} {As rest : List Value} {g : JFrame}
theorem vx_runVX {hh : List (Nat × Nat × Nat × Nat)} (S : CallFix p m c cc nL s args Ts own) (hM : vx_Met l y ws rm Pc Qc XC mc ms free) (cw : vx_CVW R s args own C index y bytes maxL ret hh ws rm mc ms n) (hp : PreV s H C b Pc As)
    (hg : g.method = m) (hn : As.length = n) (hsize : g.locals.size = nL) (hstack : g.stack = As.reverse ++ .ref b :: rest) (hW : 2 * g.monitorRoom + (rest.map fun v => v.category).sum ≤ 8) (hdg : decode cc g.pc = .ok (.invokevirtual index, 3)) (hf : cells + mc ≤ R.cells ∧ slots + ms ≤ R.slots) :
    vx_Run p l e R s m args below meth c H locs cells slots mc ms g rest (Qc (Value.ref b :: As).toArray) XC free := by
  obtain ⟨⟨hrc, hrs, hfr, hlo, hws, hcw⟩, hcode, hini, hy, hlen, hl, hin, hse⟩ := cw
  have hK : vx_Back l R p e below s args y 3 8 (PreOf R mc ms Pc) (PostOf Qc mc ms free) (vx_Post XC mc ms free) := vx_backW (hh := hh) (bytes := bytes) (maxL := maxL) (ret := ret) hM hp.1 hrc hrs hfr hlo hws hcw (fun a' U hW => word_at hW (Or.inl (by first | rfl | simp [Cond.onTables, Cond.keeps, Cond.steady])) hini)
  obtain ⟨hx, hb, hml, ho, -⟩ := S
  obtain ⟨-, ⟨cellB, hcB, hoB, hclB⟩, hPc⟩ := hp
  intro T hT X
  rcases vx_callVX X hx (C := C) (hh := hh) (bytes := bytes) (maxL := maxL) (ret := ret) ho hl hin hse hcode hy hK (by rw [hT]; exact hcB) hoB hclB hg (hsize.trans hml.symm) (argsL := As) (rest := rest) (fun sig h => hn.trans (hlen sig h)) hstack hW (by rw [hb]; exact hdg)
    (fun vm₁ hW₁ => ⟨hf.1, hf.2, hPc (T.setVm vm₁) hT hW₁⟩) with ⟨v, vm₁, ⟨U', l2, c2, s2⟩, hW₁, X', ⟨g', mk, t, L, e1, e2, hq, h1, hL, h2, h3⟩, st⟩ | ⟨q, vm₁, ⟨U', l2, c2, s2⟩, hW₁, X', ⟨g', mk, t, L, E, ce, e1, e2, hq, hce, hcv, hcl, h1, hL, h2, h3⟩, st⟩
  · dsimp only [Pt.U, Pt.locs, Pt.cells, Pt.slots] at X' e1 e2 h1 h2 h3 st
    subst h1; subst h2; subst h3
    exact Or.inl ⟨v, (T.setVm vm₁).calling g' mk (Value.ref b :: As).toArray, t, U', L, hT, X', hL, e1, e2, hq, st⟩
  · dsimp only [Pt.U, Pt.locs, Pt.cells, Pt.slots] at X' e1 e2 h1 h2 h3 st hcl
    subst h1; subst h2; subst h3
    exact Or.inr ⟨q, (T.setVm vm₁).calling g' mk (Value.ref b :: As).toArray, t, U', L, E, ce, hT, X', hL, e1, e2, hq, hce, hcv, vx_cls hW₁ hcl, st⟩
theorem vx_runSX {hh : List (Nat × Nat × Nat × Nat)} (S : CallFix p m c cc nL s args Ts own) (hM : vx_Met l y ws rm Pc Qc XC mc ms free) (cw : vx_CSW R s args own index y bytes maxL ret hh ws rm mc ms n) (hp : PreS s H Pc As)
    (hg : g.method = m) (hn : As.length = n) (hsize : g.locals.size = nL) (hstack : g.stack = As.reverse ++ rest) (hW : 2 * g.monitorRoom + (rest.map fun v => v.category).sum ≤ 8) (hdg : decode cc g.pc = .ok (.invokestatic index, 3)) (hf : cells + mc ≤ R.cells ∧ slots + ms ≤ R.slots) :
    vx_Run p l e R s m args below meth c H locs cells slots mc ms g rest (Qc As.toArray) XC free := by
  obtain ⟨⟨hrc, hrs, hfr, hlo, hws, hcw⟩, hcode, hini, hy, hlen, hl, hstt⟩ := cw
  have hK : vx_Back l R p e below s args y 3 8 (PreOf R mc ms Pc) (PostOf Qc mc ms free) (vx_Post XC mc ms free) := vx_backW (hh := hh) (bytes := bytes) (maxL := maxL) (ret := ret) hM hp.1 hrc hrs hfr hlo hws hcw (fun a' U hW => word_at hW (Or.inl (by first | rfl | simp [Cond.onTables, Cond.keeps, Cond.steady])) hini)
  obtain ⟨hx, hb, hml, ho, -⟩ := S
  intro T hT X
  rcases vx_callSX X hx (hh := hh) (bytes := bytes) (maxL := maxL) (ret := ret) ho hl hstt hini hcode hy hK hg (hsize.trans hml.symm) (argsL := As) (rest := rest) (fun sig h => hn.trans (hlen sig h)) hstack hW (by rw [hb]; exact hdg)
    (fun vm₁ hW₁ => ⟨hf.1, hf.2, hp.2 (T.setVm vm₁) hT hW₁⟩) with ⟨v, vm₁, ⟨U', l2, c2, s2⟩, hW₁, X', ⟨g', mk, t, L, e1, e2, hq, h1, hL, h2, h3⟩, st⟩ | ⟨q, vm₁, ⟨U', l2, c2, s2⟩, hW₁, X', ⟨g', mk, t, L, E, ce, e1, e2, hq, hce, hcv, hcl, h1, hL, h2, h3⟩, st⟩
  · dsimp only [Pt.U, Pt.locs, Pt.cells, Pt.slots] at X' e1 e2 h1 h2 h3 st
    subst h1; subst h2; subst h3
    exact Or.inl ⟨v, (T.setVm vm₁).calling g' mk As.toArray, t, U', L, hT, X', hL, e1, e2, hq, st⟩
  · dsimp only [Pt.U, Pt.locs, Pt.cells, Pt.slots] at X' e1 e2 h1 h2 h3 st hcl
    subst h1; subst h2; subst h3
    exact Or.inr ⟨q, (T.setVm vm₁).calling g' mk As.toArray, t, U', L, E, ce, hT, X', hL, e1, e2, hq, hce, hcv, vx_cls hW₁ hcl, st⟩
end
end VXH
theorem vx_ofWH {l : Launch} {y : MethodName} {ws ws' : List Cond} {rm : Room} {Pc : Array Value → State → Prop} {Qc : Array Value → State → Outcome → State → Prop} {XC : String → State → State → Prop} {mc ms : Nat} {free : Addr → Prop} {cc : ByteArray} {maxL : Nat} {ret : Option FieldType} {hh : List (Nat × Nat × Nat × Nat)}
    (hy : plainName y.cls = true) (hw : ws = Cond.codeWith y cc maxL ret hh :: ws')
    (body : ∀ p e s m args below meth c s₁, BodyLoose p l y (headSpec ws rm) cc maxL ret e s m args below meth c s₁ → c.maxLocals = maxL → Pc args s →
      W p l e (headSpec ws rm).room s m args below meth c s.heap [] 0 0 (vx_MQ below Qc XC args s mc ms free) (entryFrame m args maxL)) : vx_Met l y ws rm Pc Qc XC mc ms free := by
  refine MetFree.of_bodyS (code := cc) (maxLocals := maxL) (ret := ret) hy ?_ ?_
  · intro args s m h hn
    obtain ⟨m9, meth, c, hn9, h1, h2, h3, h4, -, h5, h6, -⟩ := Cond.codeWith_spec (atoms_spec (ws := ws) h _ (by rw [hw]; exact List.mem_cons_self))
    cases hn.symm.trans hn9
    exact ⟨meth, c, h1, h2, h3, h4, h5, h6⟩
  · intro p e s m args below meth c s₁ B hml hP _
    have hh0 : s₁.heap = s.heap := by rw [B.state]; rfl
    obtain ⟨t, a1, o, b1, b2, b3⟩ := body p e s m args below meth c s₁ B hml hP s₁ hh0 (Stand.of_body B)
    exact ⟨t, o, a1, b1, b2, b3⟩
/-! ===== END ===== -/

/-! ===== BEGIN what the machine throws by itself, no traces kept ===== -/
end
section
/-! the words that every contract takes along: the good ones of the tables -/
def tg : List Cond := lw_tbl.filter goodWord
theorem tg_of {w : Cond} (h : w ∈ lw_tbl) (g : goodWord w = true) : w ∈ tg := List.mem_filter.mpr ⟨h, g⟩
theorem tgT {w : Cond} (i : Nat) (h : tables_1[i]? = some w) (g : goodWord w = true) : w ∈ tg := tg_of (List.mem_append_right _ (List.mem_of_getElem? h)) g
theorem tgS {w : Cond} (i : Nat) (h : (k2_sels lw_privs)[i]? = some w) (g : goodWord w = true) : w ∈ tg := tg_of (List.mem_append_left _ (List.mem_of_getElem? h)) g
theorem tg_good {w : Cond} (h : w ∈ tg) : (w.onTables && w.keeps) = true ∨ ∃ ty, w = .arrayClass ty := good_of_word (List.mem_filter.mp h).2
theorem tg_in {ws : List Cond} (h : ∀ w ∈ ws, w ∈ tg) : GoodIn tg ws := fun w hw => ⟨h w hw, tg_good (h w hw)⟩
theorem tg_c {w : Cond} {ws : List Cond} (h : w ∈ tg) (t : ∀ w' ∈ ws, w' ∈ tg) : ∀ w' ∈ w :: ws, w' ∈ tg := fun w' h' => (List.mem_cons.mp h').elim (fun e => by rw [e]; exact h) (t w')
theorem tg_s : ∀ w ∈ tg, w ∈ tg := fun _ h => h
theorem gd_V {own C : String} {idx n : Nat} {y : MethodName} {b : ByteArray} {r : Option FieldType} (h1 : Cond.methodLink own idx y ∈ tg) (h2 : Cond.instanceMethod y ∈ tg) (h3 : Cond.selects C y y ∈ tg) (h4 : Cond.initialized C ∈ tg) (h5 : Cond.code y b n r ∈ tg) : GoodIn tg (wsV own idx C y (Cond.code y b n r :: tg)) :=
  tg_in (tg_c h1 (tg_c h2 (tg_c h3 (tg_c h4 (tg_c h5 tg_s)))))
theorem gd_S {own : String} {idx n : Nat} {y : MethodName} {b : ByteArray} {r : Option FieldType} (h1 : Cond.methodLink own idx y ∈ tg) (h2 : Cond.static y ∈ tg) (h3 : Cond.initialized y.cls ∈ tg) (h5 : Cond.code y b n r ∈ tg) : GoodIn tg (va_wsS own idx y (Cond.code y b n r :: tg)) :=
  tg_in (tg_c h1 (tg_c h2 (tg_c h3 (tg_c h5 tg_s))))
theorem gd_C {n : Nat} {y : MethodName} {b : ByteArray} {r : Option FieldType} (h5 : Cond.code y b n r ∈ tg) : GoodIn tg (Cond.code y b n r :: tg) := tg_in (tg_c h5 tg_s)
theorem gd_SU {own : String} {idx n : Nat} {y : MethodName} {b : ByteArray} {r : Option FieldType} (h1 : Cond.methodLink own idx y ∈ tg) (h2 : Cond.sameMethod y.cls y.cls y.name y.desc ∈ tg) (h3 : Cond.superclass own y.cls ∈ tg) (h4 : Cond.instanceMethod y ∈ tg) (h6 : Cond.initialized y.cls ∈ tg) (h5 : Cond.code y b n r ∈ tg) : GoodIn tg (va_wsSU own idx y (Cond.code y b n r :: tg)) :=
  tg_in (tg_c h1 (tg_c h2 (tg_c h3 (tg_c h4 (tg_c h6 (tg_c h5 tg_s))))))
theorem gd_U {own C owner : String} {idx n : Nat} {x y : MethodName} {b : ByteArray} {r : Option FieldType} (h1 : Cond.methodLink own idx x ∈ tg) (h2 : Cond.sameMethod x.cls owner x.name x.desc ∈ tg) (h3 : Cond.selects C x y ∈ tg) (h4 : Cond.instanceMethod y ∈ tg) (h6 : Cond.initialized y.cls ∈ tg) (h5 : Cond.code y b n r ∈ tg) : GoodIn tg (va_wsU own idx C owner x y (Cond.code y b n r :: tg)) :=
  tg_in (tg_c h1 (tg_c h2 (tg_c h3 (tg_c h4 (tg_c h6 (tg_c h5 tg_s))))))
theorem gd_O {own C owner : String} {idx n : Nat} {x y : MethodName} {b : ByteArray} {r : Option FieldType} (h1 : Cond.methodLink own idx x ∈ tg) (h2 : Cond.sameMethod x.cls owner x.name x.desc ∈ tg) (h0 : Cond.instanceMethod ⟨owner, x.name, x.desc⟩ ∈ tg) (h3 : Cond.selects C x y ∈ tg) (h4 : Cond.instanceMethod y ∈ tg) (h6 : Cond.initialized y.cls ∈ tg) (h5 : Cond.code y b n r ∈ tg) : GoodIn tg (va_wsO own idx C owner x y (Cond.code y b n r :: tg)) :=
  tg_in (tg_c h1 (tg_c h2 (tg_c h0 (tg_c h3 (tg_c h4 (tg_c h6 (tg_c h5 tg_s)))))))
/-! what the tables alone don't say of a state: two statics of Throwable, the five texts, the links across the nest -/
def en_T (U : State) : Prop := (∃ a, vk_R "BakeHouse$Brioche" 34 "the brioche is fallen" a U) ∧ (∃ a, vk_R "BakeHouse" 47 "a shelf of less than no places" a U) ∧ (∃ a, vk_R "BakeHouse$Dough" 60 "the shelf is out" a U) ∧ (∃ a, vk_R "BakeHouse$Dough" 71 "the shelf has no such place" a U) ∧ (∃ a, vk_R "BakeHouse$Flat" 41 "a flat bread without a crust" a U)
theorem en_T.warm {s U : State} (hW : s.WarmedH U.vm) (h : en_T s) : en_T U := by
  obtain ⟨⟨a1, h1⟩, ⟨a2, h2⟩, ⟨a3, h3⟩, ⟨a4, h4⟩, ⟨a5, h5⟩⟩ := h
  exact ⟨⟨a1, h1.warm hW⟩, ⟨a2, h2.warm hW⟩, ⟨a3, h3.warm hW⟩, ⟨a4, h4.warm hW⟩, ⟨a5, h5.warm hW⟩⟩
theorem en_T.same {s U : State} (hv : U.vm = s.vm) (h : en_T s) : en_T U := by
  obtain ⟨⟨a1, h1⟩, ⟨a2, h2⟩, ⟨a3, h3⟩, ⟨a4, h4⟩, ⟨a5, h5⟩⟩ := h
  exact ⟨⟨a1, h1.same hv⟩, ⟨a2, h2.same hv⟩, ⟨a3, h3.same hv⟩, ⟨a4, h4.same hv⟩, ⟨a5, h5.same hv⟩⟩
end
section
def nw_L : List Cond := [.methodLinkNest "BakeHouse" 9 ⟨"BakeHouse$Book", "<init>", "()V"⟩ "BakeHouse", .methodLinkNest "BakeHouse" 22 ⟨"BakeHouse$Shelf", "<init>", "()V"⟩ "BakeHouse", .methodLinkNest "BakeHouse$Book" 34 ⟨"BakeHouse", "within", "(III)Z"⟩ "BakeHouse"]
def nw_C : List Cond := [.castable "java/lang/IllegalStateException" "java/lang/IllegalStateException", .castable "java/lang/NegativeArraySizeException" "java/lang/NegativeArraySizeException", .castable "java/lang/NullPointerException" "java/lang/NullPointerException", .castable "java/lang/RuntimeException" "java/lang/Throwable", .castable "java/lang/ArrayIndexOutOfBoundsException" "java/lang/ArrayIndexOutOfBoundsException", .castable "java/lang/ArithmeticException" "java/lang/ArithmeticException", .castable "BakeHouse$Brioche" "BakeHouse$Dough", .castable "BakeHouse$Flat" "BakeHouse$Dough", .castable "BakeHouse$Leavened" "BakeHouse$Dough", .castable "BakeHouse$Levain" "BakeHouse$Dough", .castable "BakeHouse$Rye" "BakeHouse$Dough", .castable "BakeHouse$Sour" "BakeHouse$Dough", .castable "BakeHouse$Sweet" "BakeHouse$Dough", .declares ⟨"java/lang/RuntimeException", "<init>", "()V"⟩, .declares ⟨"java/lang/RuntimeException", "<init>", "(Ljava/lang/String;)V"⟩, .declares ⟨"java/lang/Exception", "<init>", "()V"⟩, .declares ⟨"java/lang/Exception", "<init>", "(Ljava/lang/String;)V"⟩, .declares ⟨"java/lang/Throwable", "<init>", "()V"⟩, .declares ⟨"java/lang/Throwable", "<init>", "(Ljava/lang/String;)V"⟩, .declares ⟨"java/lang/Throwable", "fillInStackTrace", "()Ljava/lang/Throwable;"⟩, .declares ⟨"java/lang/IndexOutOfBoundsException", "<init>", "()V"⟩, .declares ⟨"java/lang/IndexOutOfBoundsException", "<init>", "(Ljava/lang/String;)V"⟩]
theorem nw_Lwarm {s U : State} (hW : s.WarmedH U.vm) : ∀ w ∈ nw_L, va_Nw w s → va_Nw w U := by
  intro w hw
  simp only [nw_L, List.mem_cons, List.not_mem_nil, or_false] at hw
  rcases hw with rfl | rfl | rfl <;> exact va_Nw.warmM hW
theorem nw_Cwarm {s U : State} (hW : s.WarmedH U.vm) : ∀ w ∈ nw_C, va_Nw w s → va_Nw w U := by
  intro w hw
  simp only [nw_C, List.mem_cons, List.not_mem_nil, or_false] at hw
  rcases hw with rfl | rfl | rfl | rfl | rfl | rfl | rfl | rfl | rfl | rfl | rfl | rfl | rfl | rfl | rfl | rfl | rfl | rfl | rfl | rfl | rfl | rfl <;> first | exact va_Nw.warmC hW | exact va_Nw.warmD hW
theorem nw_Lot : ∀ w ∈ nw_L, w.onTables = true := by decide +kernel
theorem nw_Cot : ∀ w ∈ nw_C, w.onTables = true := by decide +kernel
def en (A : Nat → Prop) (U : State) (H : Heap) : Prop := vx_Zq Bundle.tN "UNASSIGNED_STACK" Bundle.steD A U H ∧ vx_Zq Bundle.tN "SUPPRESSED_SENTINEL" Bundle.listD A U H ∧ en_T U ∧ (∀ w ∈ nw_L, va_Nw w U) ∧ (∀ w ∈ nw_C, va_Nw w U) ∧ va_AO "BakeHouse$Shelf" U ∧ va_AO "BakeHouse$Dough" U ∧ va_Nc "java/lang/ArrayIndexOutOfBoundsException" "java/lang/NullPointerException" U
theorem en.warm {A : Nat → Prop} {s U : State} {H : Heap} (hW : s.WarmedH U.vm) (h : en A s H) : en A U H := by
  obtain ⟨h1, h2, h3, h4, h5, h6, h7, h10⟩ := h
  exact ⟨h1.moved hW.alike, h2.moved hW.alike, h3.warm hW, fun w hw => nw_Lwarm hW w hw (h4 w hw), fun w hw => nw_Cwarm hW w hw (h5 w hw), h6.moved hW.alike, h7.moved hW.alike, h10.moved hW.alike⟩
theorem en.same {A : Nat → Prop} {s U : State} {H : Heap} (hv : s.vm = U.vm) (h : en A s H) : en A U H := by
  obtain ⟨h1, h2, h3, h4, h5, h6, h7, h10⟩ := h
  have ha : s.vm.Alike U.vm := by rw [← hv]; exact Vm.Alike.refl _
  exact ⟨h1.moved ha, h2.moved ha, h3.same hv.symm, fun w hw => va_Nw.same (nw_Lot w hw) hv (h4 w hw), fun w hw => va_Nw.same (nw_Cot w hw) hv (h5 w hw), h6.moved ha, h7.moved ha, h10.moved ha⟩
theorem en.kept {A : Nat → Prop} {U : State} {H H1 : Heap} (h : en A U H) (hq : ∀ a : Nat, a < H.size → ¬ A a → H1[a]? = H[a]?) : en A U H1 := by
  obtain ⟨h1, h2, h3, h4, h5, h6, h7, h10⟩ := h
  exact ⟨h1.kept hq, h2.kept hq, h3, h4, h5, h6, h7, h10⟩
theorem en.narrow {A B : Nat → Prop} {U : State} {H : Heap} (h : en A U H) (hAB : ∀ q, B q → A q) : en B U H := by
  obtain ⟨h1, h2, h3, h4, h5, h6, h7, h10⟩ := h
  exact ⟨h1.narrow hAB, h2.narrow hAB, h3, h4, h5, h6, h7, h10⟩
/-! contracts: the world w0 ahead, the world 'w u' behind -/
def bz_pre (D : va_G) (cl : List vw_C) (tys : List (ClassId × FieldType)) (w0 : va_W) (sz : Nat) (U : State) : Prop := U.heap.size = sz ∧ va_P D cl w0 U.heap ∧ va_K D cl tys U ∧ va_D (fun _ => True) w0 ∧ en (va_A w0 sz) U U.heap
def bz_B {S : Type} (D : va_G) (cl : List vw_C) (w : S → va_W) (w0 : va_W) (sz : Nat) (u : S) (t : State) : Prop := va_P D cl (w u) t.heap ∧ va_D (va_A w0 sz) (w u)
def bz_X {S : Type} (D : va_G) (cl : List vw_C) (w : S → va_W) (w0 : va_W) (sz : Nat) (E0 : String → S → Prop) (E : String) (u : S) (t : State) : Prop := E0 E u ∧ va_P D cl (w u) t.heap ∧ va_D (va_A w0 sz) (w u)
/-- returns an int (or a truth value) -/
def MI {S : Type} (l : Launch) (y : MethodName) (b : ByteArray) (nL : Nat) (ret : FieldType) (rm : Room) (D : va_G) (cl : List vw_C) (tys : List (ClassId × FieldType)) (as : List Value) (w : S → va_W) (w0 : va_W) (post : Int32 → S → Prop) (mc ms : Nat) : Prop :=
  ∀ sz, Met l y (.code y b nL (some ret) :: tg) rm (va_Pc as (bz_pre D cl tys w0 sz)) (va_Qi post (bz_B D cl w w0 sz) (va_A w0 sz)) mc ms (va_A w0 sz)
/-- returns nothing -/
def MV {S : Type} (l : Launch) (y : MethodName) (b : ByteArray) (nL : Nat) (rm : Room) (D : va_G) (cl : List vw_C) (tys : List (ClassId × FieldType)) (as : List Value) (w : S → va_W) (w0 : va_W) (post : S → Prop) (mc ms : Nat) : Prop :=
  ∀ sz, Met l y (.code y b nL none :: tg) rm (va_Pc as (bz_pre D cl tys w0 sz)) (va_Qv post (bz_B D cl w w0 sz) (va_A w0 sz)) mc ms (va_A w0 sz)
/-- returns a reference or null -/
def MR {S : Type} (l : Launch) (y : MethodName) (b : ByteArray) (nL : Nat) (ret : FieldType) (rm : Room) (D : va_G) (cl : List vw_C) (tys : List (ClassId × FieldType)) (as : List Value) (w : S → va_W) (w0 : va_W) (post : Option Nat → S → Prop) (mc ms : Nat) : Prop :=
  ∀ sz, Met l y (.code y b nL (some ret) :: tg) rm (va_Pc as (bz_pre D cl tys w0 sz)) (va_Qq post (bz_B D cl w w0 sz) (va_A w0 sz)) mc ms (va_A w0 sz)
/-- returns an int, or throws -/
def XI {S : Type} (l : Launch) (y : MethodName) (b : ByteArray) (nL : Nat) (ret : FieldType) (rm : Room) (D : va_G) (cl : List vw_C) (tys : List (ClassId × FieldType)) (as : List Value) (w : S → va_W) (w0 : va_W) (post : Int32 → S → Prop) (px : String → S → Prop) (mc ms : Nat) : Prop :=
  ∀ sz, vx_Met l y (.code y b nL (some ret) :: tg) rm (va_Pc as (bz_pre D cl tys w0 sz)) (va_Qi post (bz_B D cl w w0 sz) (va_A w0 sz)) (vx_X (fun _ : S => True) (bz_X D cl w w0 sz px) (va_A w0 sz)) mc ms (va_A w0 sz)
/-- returns nothing, or throws -/
def XV {S : Type} (l : Launch) (y : MethodName) (b : ByteArray) (nL : Nat) (rm : Room) (D : va_G) (cl : List vw_C) (tys : List (ClassId × FieldType)) (as : List Value) (w : S → va_W) (w0 : va_W) (post : S → Prop) (px : String → S → Prop) (mc ms : Nat) : Prop :=
  ∀ sz, vx_Met l y (.code y b nL none :: tg) rm (va_Pc as (bz_pre D cl tys w0 sz)) (va_Qv post (bz_B D cl w w0 sz) (va_A w0 sz)) (vx_X (fun _ : S => True) (bz_X D cl w w0 sz px) (va_A w0 sz)) mc ms (va_A w0 sz)
theorem bz_blind {D : va_G} {cl : List vw_C} {tys : List (ClassId × FieldType)} {as : List Value} {w0 : va_W} {sz : Nat} : FrameBlind (va_Pc as (bz_pre D cl tys w0 sz)) := by
  intro a U g mk h
  obtain ⟨h0, h1, h2, h3, h4, h5⟩ := h
  exact ⟨h0, h1, h2, va_K.moved (u := U) (U := U.calling g mk a) (Vm.Alike.refl U.vm) h3, h4, en.same (s := U) rfl h5⟩
/-- what stands fast in a body -/
def Fx (p : Program) (s : State) (m : MethodId) (args : Array Value) (meth : Method) (c : Code) (A : Nat → Prop) (D : va_G) (cl : List vw_C) (tys : List (ClassId × FieldType)) (cc : ByteArray) (nL : Nat) (own : String) (ret : Option FieldType) : Prop :=
  CallFix p m c cc nL s args tg own ∧ meth.sig.returnType = ret ∧ meth.locks = false ∧ va_K D cl tys s ∧ en A s s.heap ∧ ∀ q, s.heap.size ≤ q → A q
/-- what moves: the world in the heap -/
def Wd (D : va_G) (cl : List vw_C) (A : Nat → Prop) (s : State) (H : Heap) (locs : List Loc) (w : va_W) : Prop := va_P D cl w H ∧ va_D A w ∧ va_S A s.heap H locs
section Ctx
variable {p : Program} {l : Launch} {e : Env} {R : Room} {s : State} {m : MethodId} {args : Array Value} {below : List Frame} {meth : Method} {c : Code} {H : Heap} {locs : List Loc} {cells slots : Nat} {Q : State → Prop}
variable {A : Nat → Prop} {D : va_G} {cl : List vw_C} {tys : List (ClassId × FieldType)} {cc : ByteArray} {nL : Nat} {own : String} {ret : Option FieldType} {w0 : va_W}
theorem Fx.x (h : Fx p s m args meth c A D cl tys cc nL own ret) : p.tables.exec = Jvm.exec := h.1.1
theorem Fx.b (h : Fx p s m args meth c A D cl tys cc nL own ret) : c.code = cc := h.1.2.1
theorem Fx.ml (h : Fx p s m args meth c A D cl tys cc nL own ret) : c.maxLocals = nL := h.1.2.2.1
theorem Fx.ow (h : Fx p s m args meth c A D cl tys cc nL own ret) : s.vm.findClass own = some m.cls := h.1.2.2.2.1
theorem Fx.ts (h : Fx p s m args meth c A D cl tys cc nL own ret) : ∀ w ∈ tg, w.before args s = true := h.1.2.2.2.2
theorem Fx.r (h : Fx p s m args meth c A D cl tys cc nL own ret) : meth.sig.returnType = ret := h.2.1
theorem Fx.lk (h : Fx p s m args meth c A D cl tys cc nL own ret) : meth.locks = false := h.2.2.1
theorem Fx.k (h : Fx p s m args meth c A D cl tys cc nL own ret) : va_K D cl tys s := h.2.2.2.1
theorem Fx.ev (h : Fx p s m args meth c A D cl tys cc nL own ret) : en A s s.heap := h.2.2.2.2.1
theorem Fx.a (h : Fx p s m args meth c A D cl tys cc nL own ret) : ∀ q, s.heap.size ≤ q → A q := h.2.2.2.2.2
theorem Wd.free (cx : Fx p s m args meth c A D cl tys cc nL own ret) (hw : Wd D cl A s H locs w0) : ∀ q, va_A w0 H.size q → A q := by
  intro q h
  rcases h with ⟨k, e, h⟩ | h
  · exact hw.2.1.2 k _ h
  · exact cx.a q (Nat.le_trans hw.2.2.1 h)
/-- the premise of a callee over the same world -/
theorem Wd.pre {as : List Value} (cx : Fx p s m args meth c A D cl tys cc nL own ret) (hw : Wd D cl A s H locs w0) : ∀ U : State, U.heap = H → s.WarmedH U.vm → va_Pc as (bz_pre D cl tys w0 H.size) as.toArray U := by
  intro U hU hW
  refine ⟨rfl, by rw [hU], by rw [hU]; exact hw.1, va_K.moved hW.alike cx.k, hw.2.1.weaken (fun _ _ _ _ => trivial), ?_⟩
  rw [hU]
  exact ((cx.ev.kept hw.2.2.2.1).narrow (hw.free cx)).warm hW
/-- the world behind a call, in the caller's view -/
theorem Wd.back {S : Type} {w : S → va_W} {u : S} {t : State} {H1 : Heap} {locs1 : List Loc} (cx : Fx p s m args meth c A D cl tys cc nL own ret) (hw : Wd D cl A s H locs w0) (ht : t.heap = H1) (hB : bz_B D cl w w0 H.size u t) (hS : va_S A s.heap H1 locs1) : Wd D cl A s H1 locs1 (w u) := by
  obtain ⟨h1, h2⟩ := hB
  exact ⟨by rw [← ht]; exact h1, h2.weaken (fun k q _ h => hw.free cx q.1 h), hS⟩
theorem Wd.backX {S : Type} {w : S → va_W} {u : S} {t : State} {H1 : Heap} {locs1 : List Loc} {px : String → S → Prop} {E : String} (cx : Fx p s m args meth c A D cl tys cc nL own ret) (hw : Wd D cl A s H locs w0) (ht : t.heap = H1) (hB : bz_X D cl w w0 H.size px E u t) (hS : va_S A s.heap H1 locs1) : px E u ∧ Wd D cl A s H1 locs1 (w u) := by
  obtain ⟨h0, h1, h2⟩ := hB
  exact ⟨h0, by rw [← ht]; exact h1, h2.weaken (fun k q _ h => hw.free cx q.1 h), hS⟩
end Ctx
end
section
section Calls5
variable {p : Program} {l : Launch} {e : Env} {R : Room} {s : State} {m : MethodId} {args : Array Value} {below : List Frame} {meth : Method} {c : Code} {H : Heap} {locs : List Loc} {cells slots : Nat} {Q : State → Prop}
variable {A : Nat → Prop} {D : va_G} {cl : List vw_C} {tys : List (ClassId × FieldType)} {cc : ByteArray} {nL : Nat} {own : String} {ret : Option FieldType} {w0 : va_W}
variable {pc : Nat} {ls : Array Slot} {rest st0 : List Value}
/-- a run of a callee, whatever the way it is called: returns -/
def RunsI {S : Type} (p : Program) (l : Launch) (e : Env) (R : Room) (s : State) (m : MethodId) (args : Array Value) (below : List Frame) (meth : Method) (c : Code) (H : Heap) (locs : List Loc) (cells slots : Nat) (pc : Nat) (ls : Array Slot) (st0 rest : List Value) (D : va_G) (cl : List vw_C) (w : S → va_W) (w0 : va_W) (post : Int32 → S → Prop) (mc ms : Nat) : Prop :=
  ∃ a, va_Run p l e R s m args below meth c H locs cells slots mc ms (F0 m pc ls st0) rest (va_Qi post (bz_B D cl w w0 H.size) (va_A w0 H.size) a) (va_A w0 H.size)
def RunsV {S : Type} (p : Program) (l : Launch) (e : Env) (R : Room) (s : State) (m : MethodId) (args : Array Value) (below : List Frame) (meth : Method) (c : Code) (H : Heap) (locs : List Loc) (cells slots : Nat) (pc : Nat) (ls : Array Slot) (st0 rest : List Value) (D : va_G) (cl : List vw_C) (w : S → va_W) (w0 : va_W) (post : S → Prop) (mc ms : Nat) : Prop :=
  ∃ a, va_Run p l e R s m args below meth c H locs cells slots mc ms (F0 m pc ls st0) rest (va_Qv post (bz_B D cl w w0 H.size) (va_A w0 H.size) a) (va_A w0 H.size)
def RunsR {S : Type} (p : Program) (l : Launch) (e : Env) (R : Room) (s : State) (m : MethodId) (args : Array Value) (below : List Frame) (meth : Method) (c : Code) (H : Heap) (locs : List Loc) (cells slots : Nat) (pc : Nat) (ls : Array Slot) (st0 rest : List Value) (D : va_G) (cl : List vw_C) (w : S → va_W) (w0 : va_W) (post : Option Nat → S → Prop) (mc ms : Nat) : Prop :=
  ∃ a, va_Run p l e R s m args below meth c H locs cells slots mc ms (F0 m pc ls st0) rest (va_Qq post (bz_B D cl w w0 H.size) (va_A w0 H.size) a) (va_A w0 H.size)
def RunsXI {S : Type} (p : Program) (l : Launch) (e : Env) (R : Room) (s : State) (m : MethodId) (args : Array Value) (below : List Frame) (meth : Method) (c : Code) (H : Heap) (locs : List Loc) (cells slots : Nat) (pc : Nat) (ls : Array Slot) (st0 rest : List Value) (D : va_G) (cl : List vw_C) (w : S → va_W) (w0 : va_W) (post : Int32 → S → Prop) (px : String → S → Prop) (mc ms : Nat) : Prop :=
  ∃ a, vx_Run p l e R s m args below meth c H locs cells slots mc ms (F0 m pc ls st0) rest (va_Qi post (bz_B D cl w w0 H.size) (va_A w0 H.size) a) (vx_X (fun _ : S => True) (bz_X D cl w w0 H.size px) (va_A w0 H.size)) (va_A w0 H.size)
def RunsXV {S : Type} (p : Program) (l : Launch) (e : Env) (R : Room) (s : State) (m : MethodId) (args : Array Value) (below : List Frame) (meth : Method) (c : Code) (H : Heap) (locs : List Loc) (cells slots : Nat) (pc : Nat) (ls : Array Slot) (st0 rest : List Value) (D : va_G) (cl : List vw_C) (w : S → va_W) (w0 : va_W) (post : S → Prop) (px : String → S → Prop) (mc ms : Nat) : Prop :=
  ∃ a, vx_Run p l e R s m args below meth c H locs cells slots mc ms (F0 m pc ls st0) rest (va_Qv post (bz_B D cl w w0 H.size) (va_A w0 H.size) a) (vx_X (fun _ : S => True) (bz_X D cl w w0 H.size px) (va_A w0 H.size)) (va_A w0 H.size)
theorem cgo_i {S : Type} {w : S → va_W} {post : Int32 → S → Prop} {mc ms : Nat} (cx : Fx p s m args meth c A D cl tys cc nL own ret) (hw : Wd D cl A s H locs w0) (hr : RunsI p l e R s m args below meth c H locs cells slots pc ls st0 rest D cl w w0 post mc ms)
    (kk : ∀ (r : Int32) (u : S) (H1 : Heap) (locs1 : List Loc), post r u → Wd D cl A s H1 locs1 (w u) → W p l e R s m args below meth c H1 locs1 (cells + mc) (slots + ms) Q (F0 m (pc + 3) ls (.int r :: rest))) : W p l e R s m args below meth c H locs cells slots Q (F0 m pc ls st0) := by
  obtain ⟨a, hr⟩ := hr
  exact va_calli hr hw.2.2 (fun q _ h => hw.free cx q h) (hw.free cx) (fun r u t H1 locs1 ht _ hp hB _ _ hS => kk r u H1 locs1 hp (hw.back cx ht hB hS))
theorem cgo_v {S : Type} {w : S → va_W} {post : S → Prop} {mc ms : Nat} (cx : Fx p s m args meth c A D cl tys cc nL own ret) (hw : Wd D cl A s H locs w0) (hr : RunsV p l e R s m args below meth c H locs cells slots pc ls st0 rest D cl w w0 post mc ms)
    (kk : ∀ (u : S) (H1 : Heap) (locs1 : List Loc), post u → Wd D cl A s H1 locs1 (w u) → W p l e R s m args below meth c H1 locs1 (cells + mc) (slots + ms) Q (F0 m (pc + 3) ls rest)) : W p l e R s m args below meth c H locs cells slots Q (F0 m pc ls st0) := by
  obtain ⟨a, hr⟩ := hr
  exact va_callv hr hw.2.2 (fun q _ h => hw.free cx q h) (hw.free cx) (fun u t H1 locs1 ht _ hp hB _ _ hS => kk u H1 locs1 hp (hw.back cx ht hB hS))
theorem cgo_r {S : Type} {w : S → va_W} {post : Option Nat → S → Prop} {mc ms : Nat} (cx : Fx p s m args meth c A D cl tys cc nL own ret) (hw : Wd D cl A s H locs w0) (hr : RunsR p l e R s m args below meth c H locs cells slots pc ls st0 rest D cl w w0 post mc ms)
    (kk : ∀ (r : Option Nat) (u : S) (H1 : Heap) (locs1 : List Loc), post r u → Wd D cl A s H1 locs1 (w u) → W p l e R s m args below meth c H1 locs1 (cells + mc) (slots + ms) Q (F0 m (pc + 3) ls (va_rf r :: rest))) : W p l e R s m args below meth c H locs cells slots Q (F0 m pc ls st0) := by
  obtain ⟨a, hr⟩ := hr
  exact va_callq hr hw.2.2 (fun q _ h => hw.free cx q h) (hw.free cx) (fun r u t H1 locs1 ht _ hp hB _ _ hS => kk r u H1 locs1 hp (hw.back cx ht hB hS))
theorem cgo_xi {S : Type} {w : S → va_W} {post : Int32 → S → Prop} {px : String → S → Prop} {mc ms : Nat} (cx : Fx p s m args meth c A D cl tys cc nL own ret) (hw : Wd D cl A s H locs w0) (hr : RunsXI p l e R s m args below meth c H locs cells slots pc ls st0 rest D cl w w0 post px mc ms)
    (kx : ∀ (E : String) (ce : Cell) (q : Addr) (u : S) (H1 : Heap) (locs1 : List Loc), px E u → Wd D cl A s H1 locs1 (w u) → H1[q]? = some ce → ce.vm = .none → s.vm.findClass E = some ce.cls → vx_W p l e R s m args below meth c H1 locs1 (cells + mc) (slots + ms) Q (F0 m pc ls rest) q)
    (kk : ∀ (r : Int32) (u : S) (H1 : Heap) (locs1 : List Loc), post r u → Wd D cl A s H1 locs1 (w u) → W p l e R s m args below meth c H1 locs1 (cells + mc) (slots + ms) Q (F0 m (pc + 3) ls (.int r :: rest))) : W p l e R s m args below meth c H locs cells slots Q (F0 m pc ls st0) := by
  obtain ⟨a, hr⟩ := hr
  exact vx_calli hr hw.2.2 (fun q _ h => hw.free cx q h) (hw.free cx) (fun q _ h => hw.free cx q h) (fun E ce q u t H1 locs1 ht _ _ hB _ _ hS h1 h2 h3 => kx E ce q u H1 locs1 (hw.backX cx ht hB hS).1 (hw.backX cx ht hB hS).2 h1 h2 h3) (fun r u t H1 locs1 ht _ hp hB _ _ hS => kk r u H1 locs1 hp (hw.back cx ht hB hS))
theorem cgo_xv {S : Type} {w : S → va_W} {post : S → Prop} {px : String → S → Prop} {mc ms : Nat} (cx : Fx p s m args meth c A D cl tys cc nL own ret) (hw : Wd D cl A s H locs w0) (hr : RunsXV p l e R s m args below meth c H locs cells slots pc ls st0 rest D cl w w0 post px mc ms)
    (kx : ∀ (E : String) (ce : Cell) (q : Addr) (u : S) (H1 : Heap) (locs1 : List Loc), px E u → Wd D cl A s H1 locs1 (w u) → H1[q]? = some ce → ce.vm = .none → s.vm.findClass E = some ce.cls → vx_W p l e R s m args below meth c H1 locs1 (cells + mc) (slots + ms) Q (F0 m pc ls rest) q)
    (kk : ∀ (u : S) (H1 : Heap) (locs1 : List Loc), post u → Wd D cl A s H1 locs1 (w u) → W p l e R s m args below meth c H1 locs1 (cells + mc) (slots + ms) Q (F0 m (pc + 3) ls rest)) : W p l e R s m args below meth c H locs cells slots Q (F0 m pc ls st0) := by
  obtain ⟨a, hr⟩ := hr
  exact vx_callv hr hw.2.2 (fun q _ h => hw.free cx q h) (hw.free cx) (fun q _ h => hw.free cx q h) (fun E ce q u t H1 locs1 ht _ _ hB _ _ hS h1 h2 h3 => kx E ce q u H1 locs1 (hw.backX cx ht hB hS).1 (hw.backX cx ht hB hS).2 h1 h2 h3) (fun u t H1 locs1 ht _ hp hB _ _ hS => kk u H1 locs1 hp (hw.back cx ht hB hS))
/-- a receiver in the world -/
theorem Wd.recv {a q0 ci : Nat} {C : String} {T : u_T} {N : Nat} {fs : List Value} (cx : Fx p s m args meth c A D cl tys cc nL own ret) (hw : Wd D cl A s H locs w0) (he : w0[q0]? = some (a, .inr (ci, fs))) (hc : cl[ci]? = some (C, T, N)) : ∃ cell : Cell, H[a]? = some cell ∧ cell.vm.isStatics = false ∧ s.vm.findClass C = some cell.cls := va_recv cx.k hw.1 hc he
variable {idx nLy n mc ms : Nat} {y : MethodName} {b : ByteArray} {ry : FieldType} {rm : Room} {As : List Value}
/-- the ways of a call: words, room, the stack -/
def CwR (R rm : Room) (nLy mc ms cells slots : Nat) (y : MethodName) (n : Nat) (As st0 rest : List Value) (ls : Array Slot) (nL : Nat) : Prop :=
  (y.cls ≠ "java/lang/invoke/MethodHandle" ∧ y.cls ≠ "java/lang/invoke/VarHandle" ∧ (parseMethodDescriptor y.desc).map (fun d => d.parameters.length) = some n) ∧ As.length = n ∧ ls.size = nL ∧ (rest.map fun v => v.category).sum ≤ 8 ∧ (rm.frames + 1 ≤ R.frames ∧ 8 + (nLy + 11) + rm.locals ≤ R.locals) ∧ (cells + mc ≤ R.cells ∧ slots + ms ≤ R.slots) ∧ rm.cells = mc ∧ rm.slots = ms
theorem rV_i {S : Type} {w : S → va_W} {post : Int32 → S → Prop} {a q0 ci : Nat} {C : String} {T : u_T} {N : Nat} {fs : List Value} (cx : Fx p s m args meth c A D cl tys cc nL own ret) (hw : Wd D cl A s H locs w0) (hM : MI l y b nLy ry rm D cl tys (.ref a :: As) w w0 post mc ms)
    (hg : GoodIn tg (wsV own idx C y (.code y b nLy (some ry) :: tg))) (hyC : y.cls = C) (hcr : CwR R rm nLy mc ms cells slots y n As st0 rest ls nL) (hst : st0 = As.reverse ++ .ref a :: rest) (he : w0[q0]? = some (a, .inr (ci, fs))) (hc : cl[ci]? = some (C, T, N)) (hdg : decode cc pc = .ok (.invokevirtual idx, 3)) :
    RunsI p l e R s m args below meth c H locs cells slots pc ls st0 rest D cl w w0 post mc ms := by
  obtain ⟨hd, hn, hls, hca, hR, hf, hrc, hrs⟩ := hcr
  exact ⟨_, va_runV cx.1 (hM H.size) (cwV n cx.ts hg rfl hrc hrs ⟨hyC, hd⟩ hR) ⟨bz_blind, hw.recv cx he hc, hw.pre cx⟩ rfl hn hls hst (lv_room hca) hdg hf⟩
theorem rV_v {S : Type} {w : S → va_W} {post : S → Prop} {a q0 ci : Nat} {C : String} {T : u_T} {N : Nat} {fs : List Value} (cx : Fx p s m args meth c A D cl tys cc nL own ret) (hw : Wd D cl A s H locs w0) (hM : MV l y b nLy rm D cl tys (.ref a :: As) w w0 post mc ms)
    (hg : GoodIn tg (wsV own idx C y (.code y b nLy none :: tg))) (hyC : y.cls = C) (hcr : CwR R rm nLy mc ms cells slots y n As st0 rest ls nL) (hst : st0 = As.reverse ++ .ref a :: rest) (he : w0[q0]? = some (a, .inr (ci, fs))) (hc : cl[ci]? = some (C, T, N)) (hdg : decode cc pc = .ok (.invokevirtual idx, 3)) :
    RunsV p l e R s m args below meth c H locs cells slots pc ls st0 rest D cl w w0 post mc ms := by
  obtain ⟨hd, hn, hls, hca, hR, hf, hrc, hrs⟩ := hcr
  exact ⟨_, va_runV cx.1 (hM H.size) (cwV n cx.ts hg rfl hrc hrs ⟨hyC, hd⟩ hR) ⟨bz_blind, hw.recv cx he hc, hw.pre cx⟩ rfl hn hls hst (lv_room hca) hdg hf⟩
theorem rV_r {S : Type} {w : S → va_W} {post : Option Nat → S → Prop} {a q0 ci : Nat} {C : String} {T : u_T} {N : Nat} {fs : List Value} (cx : Fx p s m args meth c A D cl tys cc nL own ret) (hw : Wd D cl A s H locs w0) (hM : MR l y b nLy ry rm D cl tys (.ref a :: As) w w0 post mc ms)
    (hg : GoodIn tg (wsV own idx C y (.code y b nLy (some ry) :: tg))) (hyC : y.cls = C) (hcr : CwR R rm nLy mc ms cells slots y n As st0 rest ls nL) (hst : st0 = As.reverse ++ .ref a :: rest) (he : w0[q0]? = some (a, .inr (ci, fs))) (hc : cl[ci]? = some (C, T, N)) (hdg : decode cc pc = .ok (.invokevirtual idx, 3)) :
    RunsR p l e R s m args below meth c H locs cells slots pc ls st0 rest D cl w w0 post mc ms := by
  obtain ⟨hd, hn, hls, hca, hR, hf, hrc, hrs⟩ := hcr
  exact ⟨_, va_runV cx.1 (hM H.size) (cwV n cx.ts hg rfl hrc hrs ⟨hyC, hd⟩ hR) ⟨bz_blind, hw.recv cx he hc, hw.pre cx⟩ rfl hn hls hst (lv_room hca) hdg hf⟩
theorem rV_xi {S : Type} {w : S → va_W} {post : Int32 → S → Prop} {px : String → S → Prop} {a q0 ci : Nat} {C : String} {T : u_T} {N : Nat} {fs : List Value} (cx : Fx p s m args meth c A D cl tys cc nL own ret) (hw : Wd D cl A s H locs w0) (hM : XI l y b nLy ry rm D cl tys (.ref a :: As) w w0 post px mc ms)
    (hg : GoodIn tg (wsV own idx C y (.code y b nLy (some ry) :: tg))) (hyC : y.cls = C) (hcr : CwR R rm nLy mc ms cells slots y n As st0 rest ls nL) (hst : st0 = As.reverse ++ .ref a :: rest) (he : w0[q0]? = some (a, .inr (ci, fs))) (hc : cl[ci]? = some (C, T, N)) (hdg : decode cc pc = .ok (.invokevirtual idx, 3)) :
    RunsXI p l e R s m args below meth c H locs cells slots pc ls st0 rest D cl w w0 post px mc ms := by
  obtain ⟨hd, hn, hls, hca, hR, hf, hrc, hrs⟩ := hcr
  exact ⟨_, vx_runV cx.1 (hM H.size) (cwV n cx.ts hg rfl hrc hrs ⟨hyC, hd⟩ hR) ⟨bz_blind, hw.recv cx he hc, hw.pre cx⟩ rfl hn hls hst (lv_room hca) hdg hf⟩
theorem rS_i {S : Type} {w : S → va_W} {post : Int32 → S → Prop} (cx : Fx p s m args meth c A D cl tys cc nL own ret) (hw : Wd D cl A s H locs w0) (hM : MI l y b nLy ry rm D cl tys As w w0 post mc ms)
    (hg : GoodIn tg (va_wsS own idx y (.code y b nLy (some ry) :: tg))) (hcr : CwR R rm nLy mc ms cells slots y n As st0 rest ls nL) (hst : st0 = As.reverse ++ rest) (hdg : decode cc pc = .ok (.invokestatic idx, 3)) :
    RunsI p l e R s m args below meth c H locs cells slots pc ls st0 rest D cl w w0 post mc ms := by
  obtain ⟨hd, hn, hls, hca, hR, hf, hrc, hrs⟩ := hcr
  exact ⟨_, va_runS cx.1 (hM H.size) (va_cwS n cx.ts hg rfl hrc hrs hd hR) ⟨bz_blind, hw.pre cx⟩ rfl hn hls hst (lv_room hca) hdg hf⟩
theorem rS_xi {S : Type} {w : S → va_W} {post : Int32 → S → Prop} {px : String → S → Prop} (cx : Fx p s m args meth c A D cl tys cc nL own ret) (hw : Wd D cl A s H locs w0) (hM : XI l y b nLy ry rm D cl tys As w w0 post px mc ms)
    (hg : GoodIn tg (va_wsS own idx y (.code y b nLy (some ry) :: tg))) (hcr : CwR R rm nLy mc ms cells slots y n As st0 rest ls nL) (hst : st0 = As.reverse ++ rest) (hdg : decode cc pc = .ok (.invokestatic idx, 3)) :
    RunsXI p l e R s m args below meth c H locs cells slots pc ls st0 rest D cl w w0 post px mc ms := by
  obtain ⟨hd, hn, hls, hca, hR, hf, hrc, hrs⟩ := hcr
  exact ⟨_, vx_runS cx.1 (hM H.size) (va_cwS n cx.ts hg rfl hrc hrs hd hR) ⟨bz_blind, hw.pre cx⟩ rfl hn hls hst (lv_room hca) hdg hf⟩
theorem rI_v {S : Type} {w : S → va_W} {post : S → Prop} {a : Nat} (cx : Fx p s m args meth c A D cl tys cc nL own ret) (hw : Wd D cl A s H locs w0) (hM : MV l y b nLy rm D cl tys (.ref a :: As) w w0 post mc ms)
    (h1 : Cond.methodLink own idx y ∈ tg) (h2 : Cond.instanceMethod y ∈ tg) (h3 : Cond.initialized y.cls ∈ tg) (h5 : Cond.code y b nLy none ∈ tg) (hy : y.name = "<init>") (hcr : CwR R rm nLy mc ms cells slots y n As st0 rest ls nL) (hst : st0 = As.reverse ++ .ref a :: rest) (hdg : decode cc pc = .ok (.invokespecial idx, 3)) :
    RunsV p l e R s m args below meth c H locs cells slots pc ls st0 rest D cl w w0 post mc ms := by
  obtain ⟨hd, hn, hls, hca, hR, hf, hrc, hrs⟩ := hcr
  exact ⟨_, va_runI cx.1 (hM H.size) (cwI n cx.ts (gd_C h5) rfl hrc hrs (cx.ts _ h3) (cx.ts _ h1) (cx.ts _ h2) hy hd hR) ⟨bz_blind, hw.pre cx⟩ rfl hn hls hst (lv_room hca) hdg hf⟩
/-- a constructor of a nest mate -/
theorem rIN_v {S : Type} {w : S → va_W} {post : S → Prop} {a : Nat} {host : String} (cx : Fx p s m args meth c A D cl tys cc nL own ret) (hw : Wd D cl A s H locs w0) (hM : MV l y b nLy rm D cl tys (.ref a :: As) w w0 post mc ms)
    (h1 : Cond.methodLinkNest own idx y host ∈ nw_L) (h2 : Cond.instanceMethod y ∈ tg) (h3 : Cond.initialized y.cls ∈ tg) (h5 : Cond.code y b nLy none ∈ tg) (hy : y.name = "<init>") (hcr : CwR R rm nLy mc ms cells slots y n As st0 rest ls nL) (hst : st0 = As.reverse ++ .ref a :: rest) (hdg : decode cc pc = .ok (.invokespecial idx, 3)) :
    RunsV p l e R s m args below meth c H locs cells slots pc ls st0 rest D cl w w0 post mc ms := by
  obtain ⟨hd, hn, hls, hca, hR, hf, hrc, hrs⟩ := hcr
  exact ⟨_, va_runIN cx.1 (hM H.size) ⟨va_cnB n cx.ts (gd_C h5) rfl hrc hrs (cx.ev.2.2.2.1 _ h1) (cx.ts _ h3) hd hR, hy, cx.ts _ h2⟩ ⟨bz_blind, hw.pre cx⟩ rfl hn hls hst (lv_room hca) hdg hf⟩
/-- a static method of a nest mate -/
theorem rSN_i {S : Type} {w : S → va_W} {post : Int32 → S → Prop} {host : String} (cx : Fx p s m args meth c A D cl tys cc nL own ret) (hw : Wd D cl A s H locs w0) (hM : MI l y b nLy ry rm D cl tys As w w0 post mc ms)
    (h1 : Cond.methodLinkNest own idx y host ∈ nw_L) (h2 : Cond.static y ∈ tg) (h3 : Cond.initialized y.cls ∈ tg) (h5 : Cond.code y b nLy (some ry) ∈ tg) (hcr : CwR R rm nLy mc ms cells slots y n As st0 rest ls nL) (hst : st0 = As.reverse ++ rest) (hdg : decode cc pc = .ok (.invokestatic idx, 3)) :
    RunsI p l e R s m args below meth c H locs cells slots pc ls st0 rest D cl w w0 post mc ms := by
  obtain ⟨hd, hn, hls, hca, hR, hf, hrc, hrs⟩ := hcr
  exact ⟨_, va_runSN cx.1 (hM H.size) ⟨va_cnB n cx.ts (gd_C h5) rfl hrc hrs (cx.ev.2.2.2.1 _ h1) (cx.ts _ h3) hd hR, cx.ts _ h2, trivial⟩ ⟨bz_blind, hw.pre cx⟩ rfl hn hls hst (lv_room hca) hdg hf⟩
end Calls5
end
section
/-! super.m(..) found in a class above the named one, and a method found by the receiver; returning or throwing -/
section Calls6
variable {p : Program} {l : Launch} {e : Env} {R : Room} {s : State} {m : MethodId} {args : Array Value} {below : List Frame} {meth : Method} {c : Code}
def sb_up (s : State) (a b : String) : Prop := ∀ ca cb : ClassId, s.vm.findClass a = some ca → s.vm.findClass b = some cb → s.vm.isSubclass ca cb = true
theorem sb_up_rf {s : State} {a : String} : sb_up s a a := by
  intro ca cb h1 h2
  cases h1.symm.trans h2
  simp [Vm.isSubclass, Vm.isSubclassAux]
theorem sb_up_of {s : State} {args : Array Value} {a b sa sb : String} (h1 : (Cond.superclass a sa).before args s = true) (h2 : (Cond.superclass b sb).before args s = true) (h : (Cond.castable a b).before args s = true) : sb_up s a b := by
  intro ca cb ha hb
  obtain ⟨p1, k1, kp1, -, hk1, -, -, ho1, -, -⟩ := Cond.superclass_spec ha h1
  obtain ⟨p2, k2, kp2, -, hk2, -, -, ho2, -, hn2⟩ := Cond.superclass_spec hb h2
  obtain ⟨c3, c4, hc3, hc4, hasg⟩ := Cond.castable_spec h
  cases ha.symm.trans hc3
  cases hb.symm.trans hc4
  exact isSubclass_of_assignable hk1 hk2 ho1 ho2 hn2 hasg
theorem bx_callSU {T : State} {locs : List Loc} {cells slots : Nat} (X : Stand p l e R s m args below meth c T locs cells slots) (hexec : p.tables.exec = Jvm.exec) {own owner : String} {index : Nat} {x y : MethodName} {bytes : ByteArray} {maxL : Nat} {ret : Option FieldType} (hy : y = ⟨owner, x.name, x.desc⟩)
    (hown : s.vm.findClass own = some m.cls) (hlink : (Cond.methodLink own index x).before args s = true) (hsame : (Cond.sameMethod x.cls owner x.name x.desc).before args s = true) (hsup : (Cond.superclass own x.cls).before args s = true)
    (hinst : (Cond.instanceMethod y).before args s = true) (hcode : (Cond.code y bytes maxL ret).before args s = true) (hno : x.name ≠ "<init>") (hup : sb_up s x.cls owner)
    {W9 : Nat} {Pre : Pt → Array Value → Prop} {Post : Pt → Array Value → Option Value → Pt → Prop} {PostX : Pt → Array Value → Addr → Pt → Prop} (hK : vx_Back l R p e below s args y 3 W9 Pre Post PostX)
    {b : Addr} {cellB : Cell} {kB : Class} (hcell : T.heap[b]? = some cellB) (hobj : cellB.vm.isStatics = false) (hkB : s.vm.classes[cellB.cls]? = some kB)
    {g : JFrame} (hg : g.method = m) (hsize : g.locals.size = c.maxLocals) {argsL rest : List Value} (hlen : ∀ sig, parseMethodDescriptor y.desc = some sig → argsL.length = sig.parameters.length)
    (hstack : g.stack = argsL.reverse ++ .ref b :: rest) (hW : 2 * g.monitorRoom + (rest.map fun v => v.category).sum ≤ W9) (hdg : decode c.code g.pc = .ok (.invokespecial index, 3))
    (hpre : ∀ vm₁, s.WarmedH vm₁ → Pre ⟨T.setVm vm₁, locs, cells, slots⟩ (Value.ref b :: argsL).toArray) :
    (∃ (v : Option Value) (vm₁ : Vm) (B : Pt), s.WarmedH vm₁ ∧ Stand p l e R s m args below meth c B.U B.locs B.cells B.slots ∧ Post ⟨T.setVm vm₁, locs, cells, slots⟩ (Value.ref b :: argsL).toArray v B ∧
      ∀ target, Steps p.tables e below (B.U.setTop { g with pc := g.pc + 3, stack := v.toList ++ rest }) target → Steps p.tables e below (T.setTop g) target) ∨
    (∃ (q : Addr) (vm₁ : Vm) (B : Pt), s.WarmedH vm₁ ∧ Stand p l e R s m args below meth c B.U B.locs B.cells B.slots ∧ PostX ⟨T.setVm vm₁, locs, cells, slots⟩ (Value.ref b :: argsL).toArray q B ∧
      Steps p.tables e below (T.setTop g) ((B.U.setTop { g with stack := rest }).pushFrame (.throwing q))) := by
  subst hy
  obtain ⟨mk, methM, hnamed, hmethM, hstM, habM⟩ := Cond.instanceMethod_spec hinst
  obtain ⟨methM', cM, hmethM', -, -, -, -, -, -, hsigM⟩ := Cond.code_spec hnamed hcode
  cases hmethM.symm.trans hmethM'
  obtain ⟨ps, dk, kp, hps, hdk, hkp, hsuper, -, -, hnid⟩ := Cond.superclass_spec hown hsup
  have hsub : s.vm.isSubclass ps mk.cls = true := hup ps mk.cls hps (findClass_of_methodNamed hnamed)
  obtain ⟨vm₁, X₁, hstep₁⟩ := X.invokespecialUp hexec hown hlink hsame hnamed hmethM hstM habM hno hdk hnid hps hsuper hsub (a := b) (cell := cellB) hcell
    (fun z h => by rw [h] at hobj; cases hobj) hkB (g := g) hg (argsL := argsL) (rest := rest) (hlen _ hsigM) hstack hdg
  rcases hK m meth c ⟨T.setVm vm₁, locs, cells, slots⟩ { g with stack := rest } (.invokespecial index) mk (Value.ref b :: argsL).toArray X₁ hg hsize hdg hW (X₁.named hnamed) (hpre vm₁ X₁.warmed) with ⟨v, B, X', hpost, hsteps⟩ | ⟨q, B, X', hpost, hsteps⟩
  · exact Or.inl ⟨v, vm₁, B, X₁.warmed, X', hpost, fun target h => hstep₁ _ (by rw [doInvoke_state]; exact hsteps.trans h)⟩
  · exact Or.inr ⟨q, vm₁, B, X₁.warmed, X', hpost, hstep₁ _ (by rw [doInvoke_state]; exact hsteps)⟩
theorem bx_callVU {T : State} {locs : List Loc} {cells slots : Nat} (X : Stand p l e R s m args below meth c T locs cells slots) (hexec : p.tables.exec = Jvm.exec) {own C owner : String} {index : Nat} {x y : MethodName} {bytes : ByteArray} {maxL : Nat} {ret : Option FieldType}
    (hown : s.vm.findClass own = some m.cls) (hlink : (Cond.methodLink own index x).before args s = true) (hsame : (Cond.sameMethod x.cls owner x.name x.desc).before args s = true)
    (hd0 : va_Decl s ⟨owner, x.name, x.desc⟩) (howner : owner ≠ "java/lang/invoke/MethodHandle" ∧ owner ≠ "java/lang/invoke/VarHandle")
    (hsel : (Cond.selects C x y).before args s = true) (hinst : (Cond.instanceMethod y).before args s = true) (hcode : (Cond.code y bytes maxL ret).before args s = true)
    {W9 : Nat} {Pre : Pt → Array Value → Prop} {Post : Pt → Array Value → Option Value → Pt → Prop} {PostX : Pt → Array Value → Addr → Pt → Prop} (hK : vx_Back l R p e below s args y 3 W9 Pre Post PostX)
    {b : Addr} {cellB : Cell} (hcell : T.heap[b]? = some cellB) (hobj : cellB.vm.isStatics = false) (hcls : s.vm.findClass C = some cellB.cls)
    {g : JFrame} (hg : g.method = m) (hsize : g.locals.size = c.maxLocals) {argsL rest : List Value} (hlen : ∀ sig, parseMethodDescriptor x.desc = some sig → argsL.length = sig.parameters.length)
    (hstack : g.stack = argsL.reverse ++ .ref b :: rest) (hW : 2 * g.monitorRoom + (rest.map fun v => v.category).sum ≤ W9) (hdg : decode c.code g.pc = .ok (.invokevirtual index, 3))
    (hpre : ∀ vm₁, s.WarmedH vm₁ → Pre ⟨T.setVm vm₁, locs, cells, slots⟩ (Value.ref b :: argsL).toArray) :
    (∃ (v : Option Value) (vm₁ : Vm) (B : Pt), s.WarmedH vm₁ ∧ Stand p l e R s m args below meth c B.U B.locs B.cells B.slots ∧ Post ⟨T.setVm vm₁, locs, cells, slots⟩ (Value.ref b :: argsL).toArray v B ∧
      ∀ target, Steps p.tables e below (B.U.setTop { g with pc := g.pc + 3, stack := v.toList ++ rest }) target → Steps p.tables e below (T.setTop g) target) ∨
    (∃ (q : Addr) (vm₁ : Vm) (B : Pt), s.WarmedH vm₁ ∧ Stand p l e R s m args below meth c B.U B.locs B.cells B.slots ∧ PostX ⟨T.setVm vm₁, locs, cells, slots⟩ (Value.ref b :: argsL).toArray q B ∧
      Steps p.tables e below (T.setTop g) ((B.U.setTop { g with stack := rest }).pushFrame (.throwing q))) := by
  obtain ⟨r0, r, hn, hrm, hstR, hsigR⟩ := hd0
  obtain ⟨cn, ck, r1, hcn, hck, hni, hf, hn1⟩ := Cond.sameMethod_found hsame
  cases hn.symm.trans hn1
  obtain ⟨mk, methM, hnamed, hmethM, -, habM⟩ := Cond.instanceMethod_spec hinst
  obtain ⟨c2, r2, m2, q1, q2, q3, q4, kP, hkP, hkPi⟩ := Cond.selects_spec hsel
  cases hcls.symm.trans q1
  cases hf.symm.trans q2
  cases hnamed.symm.trans q3
  have hselP : selectMethod e.platform s.vm cellB.cls r0 = .method mk := by rw [Launch.admits_selectMethod X.admits]; exact q4
  obtain ⟨vm₁, X₁, hstep₁⟩ := X.invokevirtualUp hexec hown hlink hsame howner hn hrm hstR (a := b) (cell := cellB) hcell
    (fun z h => by rw [h] at hobj; cases hobj) hselP hmethM habM hkP hkPi (g := g) hg (argsL := argsL) (rest := rest) (hlen _ hsigR) hstack hdg
  rcases hK m meth c ⟨T.setVm vm₁, locs, cells, slots⟩ { g with stack := rest } (.invokevirtual index) mk (Value.ref b :: argsL).toArray X₁ hg hsize hdg hW (X₁.named hnamed) (hpre vm₁ X₁.warmed) with ⟨v, B, X', hpost, hsteps⟩ | ⟨q, B, X', hpost, hsteps⟩
  · exact Or.inl ⟨v, vm₁, B, X₁.warmed, X', hpost, fun target h => hstep₁ _ fun acts => by rw [doInvoke_state]; exact hsteps.trans h⟩
  · exact Or.inr ⟨q, vm₁, B, X₁.warmed, X', hpost, hstep₁ _ fun acts => by rw [doInvoke_state]; exact hsteps⟩
variable {H : Heap} {locs : List Loc} {cells slots : Nat}
theorem bx_runSU {x y : MethodName} {bytes cc : ByteArray} {maxL nL mc ms n index : Nat} {ret : Option FieldType} {ws : List Cond} {rm : Room} {Pc : Array Value → State → Prop} {Qc : Array Value → State → Outcome → State → Prop} {XC : String → State → State → Prop} {free : Addr → Prop} {Ts : List Cond} {own owner C : String} {cC : ClassId} {b : Addr} {As rest : List Value} {g : JFrame}
    (hat : ClassAt s C cC) (S : CallFix p m c cc nL s args Ts own) (hM : vx_Met l y ws rm Pc Qc XC mc ms free) (hy : y = ⟨owner, x.name, x.desc⟩)
    (cw : (rm.cells = mc ∧ rm.slots = ms ∧ rm.frames + 1 ≤ R.frames ∧ 8 + (maxL + 11) + rm.locals ≤ R.locals ∧ (∀ w ∈ ws, ∀ (a' : Array Value) (U : State), s.WarmedH U.vm → w.before a' U = true) ∧ Cond.code y bytes maxL ret ∈ ws) ∧
      (Cond.methodLink own index x).before args s = true ∧ (Cond.sameMethod x.cls owner x.name x.desc).before args s = true ∧ (Cond.superclass own x.cls).before args s = true ∧ (Cond.instanceMethod y).before args s = true ∧ (Cond.initialized y.cls).before args s = true ∧ (Cond.code y bytes maxL ret).before args s = true ∧ x.name ≠ "<init>" ∧ (∀ sig, parseMethodDescriptor y.desc = some sig → n = sig.parameters.length) ∧ sb_up s x.cls owner) (hp : PreV s H C b Pc As)
    (hg : g.method = m) (hn : As.length = n) (hsize : g.locals.size = nL) (hstack : g.stack = As.reverse ++ .ref b :: rest) (hW : 2 * g.monitorRoom + (rest.map fun v => v.category).sum ≤ 8) (hdg : decode cc g.pc = .ok (.invokespecial index, 3)) (hf : cells + mc ≤ R.cells ∧ slots + ms ≤ R.slots) :
    vx_Run p l e R s m args below meth c H locs cells slots mc ms g rest (Qc (Value.ref b :: As).toArray) XC free := by
  obtain ⟨⟨hrc, hrs, hfr, hlo, hws, hcw⟩, hl1, hl2, hl3, hl4, hini, hcode, hno, hlen, hup⟩ := cw
  have hK : vx_Back l R p e below s args y 3 8 (PreOf R mc ms Pc) (PostOf Qc mc ms free) (vx_Post XC mc ms free) := vx_back (bytes := bytes) (maxL := maxL) (ret := ret) hM hp.1 hrc hrs hfr hlo hws hcw (fun a' U hW => word_at hW (Or.inl (by first | rfl | simp [Cond.onTables, Cond.keeps, Cond.steady])) hini)
  obtain ⟨hx, hb, hml, ho, -⟩ := S
  obtain ⟨-, ⟨cellB, hcB, hoB, hclB⟩, hPc⟩ := hp
  obtain ⟨hfc, kB, hkB, -⟩ := hat
  cases hfc.symm.trans hclB
  intro T hT X
  rcases bx_callSU X hx (bytes := bytes) (maxL := maxL) (ret := ret) hy ho hl1 hl2 hl3 hl4 hcode hno hup hK (by rw [hT]; exact hcB) hoB hkB hg (hsize.trans hml.symm) (argsL := As) (rest := rest) (fun sig h => hn.trans (hlen sig h)) hstack hW (by rw [hb]; exact hdg)
    (fun vm₁ hW₁ => ⟨hf.1, hf.2, hPc (T.setVm vm₁) hT hW₁⟩) with ⟨v, vm₁, ⟨U', l2, c2, s2⟩, hW₁, X', ⟨g', mk, t, L, e1, e2, hq, h1, hL, h2, h3⟩, st⟩ | ⟨q, vm₁, ⟨U', l2, c2, s2⟩, hW₁, X', ⟨g', mk, t, L, E, ce, e1, e2, hq, hce, hcv, hcl, h1, hL, h2, h3⟩, st⟩
  · dsimp only [Pt.U, Pt.locs, Pt.cells, Pt.slots] at X' e1 e2 h1 h2 h3 st
    subst h1; subst h2; subst h3
    exact Or.inl ⟨v, (T.setVm vm₁).calling g' mk (Value.ref b :: As).toArray, t, U', L, hT, X', hL, e1, e2, hq, st⟩
  · dsimp only [Pt.U, Pt.locs, Pt.cells, Pt.slots] at X' e1 e2 h1 h2 h3 st hcl
    subst h1; subst h2; subst h3
    exact Or.inr ⟨q, (T.setVm vm₁).calling g' mk (Value.ref b :: As).toArray, t, U', L, E, ce, hT, X', hL, e1, e2, hq, hce, hcv, vx_cls hW₁ hcl, st⟩
theorem bx_runU {x y : MethodName} {bytes cc : ByteArray} {maxL nL mc ms n index : Nat} {ret : Option FieldType} {ws : List Cond} {rm : Room} {Pc : Array Value → State → Prop} {Qc : Array Value → State → Outcome → State → Prop} {XC : String → State → State → Prop} {free : Addr → Prop} {Ts : List Cond} {own C owner : String} {b : Addr} {As rest : List Value} {g : JFrame}
    (S : CallFix p m c cc nL s args Ts own) (hM : vx_Met l y ws rm Pc Qc XC mc ms free) (cw : va_CU R s args own C owner index x y bytes maxL ret ws rm mc ms n) (hp : PreV s H C b Pc As)
    (hg : g.method = m) (hn : As.length = n) (hsize : g.locals.size = nL) (hstack : g.stack = As.reverse ++ .ref b :: rest) (hW : 2 * g.monitorRoom + (rest.map fun v => v.category).sum ≤ 8) (hdg : decode cc g.pc = .ok (.invokevirtual index, 3)) (hf : cells + mc ≤ R.cells ∧ slots + ms ≤ R.slots) :
    vx_Run p l e R s m args below meth c H locs cells slots mc ms g rest (Qc (Value.ref b :: As).toArray) XC free := by
  obtain ⟨hrc, hrs, hfr, hlo, hws, hcw⟩ := cw.back
  have hini := cw.init
  have hK : vx_Back l R p e below s args y 3 8 (PreOf R mc ms Pc) (PostOf Qc mc ms free) (vx_Post XC mc ms free) := vx_back (bytes := bytes) (maxL := maxL) (ret := ret) hM hp.1 hrc hrs hfr hlo hws hcw (fun a' U hW => word_at hW (Or.inl (by first | rfl | simp [Cond.onTables, Cond.keeps, Cond.steady])) hini)
  obtain ⟨hx, hb, hml, ho, -⟩ := S
  obtain ⟨-, ⟨cellB, hcB, hoB, hclB⟩, hPc⟩ := hp
  intro T hT X
  rcases bx_callVU X hx (C := C) (owner := owner) (bytes := bytes) (maxL := maxL) (ret := ret) ho cw.link cw.same cw.decl cw.notMH cw.sel cw.inst cw.code hK (by rw [hT]; exact hcB) hoB hclB hg (hsize.trans hml.symm) (argsL := As) (rest := rest) (fun sig h => hn.trans (cw.len sig h)) hstack hW (by rw [hb]; exact hdg)
    (fun vm₁ hW₁ => ⟨hf.1, hf.2, hPc (T.setVm vm₁) hT hW₁⟩) with ⟨v, vm₁, ⟨U', l2, c2, s2⟩, hW₁, X', ⟨g', mk, t, L, e1, e2, hq, h1, hL, h2, h3⟩, st⟩ | ⟨q, vm₁, ⟨U', l2, c2, s2⟩, hW₁, X', ⟨g', mk, t, L, E, ce, e1, e2, hq, hce, hcv, hcl, h1, hL, h2, h3⟩, st⟩
  · dsimp only [Pt.U, Pt.locs, Pt.cells, Pt.slots] at X' e1 e2 h1 h2 h3 st
    subst h1; subst h2; subst h3
    exact Or.inl ⟨v, (T.setVm vm₁).calling g' mk (Value.ref b :: As).toArray, t, U', L, hT, X', hL, e1, e2, hq, st⟩
  · dsimp only [Pt.U, Pt.locs, Pt.cells, Pt.slots] at X' e1 e2 h1 h2 h3 st hcl
    subst h1; subst h2; subst h3
    exact Or.inr ⟨q, (T.setVm vm₁).calling g' mk (Value.ref b :: As).toArray, t, U', L, E, ce, hT, X', hL, e1, e2, hq, hce, hcv, vx_cls hW₁ hcl, st⟩
/-- who doesn't throw, may throw -/
theorem MetToX {y : MethodName} {ws : List Cond} {rm : Room} {Pc : Array Value → State → Prop} {Qc : Array Value → State → Outcome → State → Prop} (XC : String → State → State → Prop) {mc ms : Nat} {free : Addr → Prop} (h : Met l y ws rm Pc Qc mc ms free) : vx_Met l y ws rm Pc Qc XC mc ms free := by
  intro p e ha hc hk s m args below hf happ hP hK
  obtain ⟨n, o, h1, h2, h3, h4⟩ := h p e ha hc hk s m args below hf happ hP hK
  exact ⟨n, o, h1, h2, h3, Or.inl h4⟩
theorem RunOfX {mc ms : Nat} {g : JFrame} {rest : List Value} {Qa : State → Outcome → State → Prop} {free : Addr → Prop} (h : vx_Run p l e R s m args below meth c H locs cells slots mc ms g rest Qa (fun _ _ _ => False) free) : va_Run p l e R s m args below meth c H locs cells slots mc ms g rest Qa free := by
  intro T hT X
  rcases h T hT X with h | ⟨q, st₀, t, T', L, E, ce, h0, X', hL, e1, e2, hx, -⟩
  · exact h
  · exact hx.elim
end Calls6
section Calls7
variable {p : Program} {l : Launch} {e : Env} {R : Room} {s : State} {m : MethodId} {args : Array Value} {below : List Frame} {meth : Method} {c : Code} {H : Heap} {locs : List Loc} {cells slots : Nat} {Q : State → Prop}
variable {A : Nat → Prop} {D : va_G} {cl : List vw_C} {tys : List (ClassId × FieldType)} {cc : ByteArray} {nL : Nat} {own : String} {ret : Option FieldType} {w0 : va_W}
variable {pc : Nat} {ls : Array Slot} {rest st0 : List Value}
variable {idx nLy n mc ms : Nat} {x y : MethodName} {b : ByteArray} {ry : FieldType} {rm : Room} {As : List Value} {a q0 ci : Nat} {C owner : String} {T : u_T} {N : Nat} {fs : List Value}
/-- the words of super.m(..) -/
def CwSU (s : State) (own owner : String) (idx : Nat) (x y : MethodName) (b : ByteArray) (nLy : Nat) (r : Option FieldType) : Prop :=
  y = ⟨owner, x.name, x.desc⟩ ∧ Cond.methodLink own idx x ∈ tg ∧ Cond.sameMethod x.cls owner x.name x.desc ∈ tg ∧ Cond.superclass own x.cls ∈ tg ∧ Cond.instanceMethod y ∈ tg ∧ Cond.initialized y.cls ∈ tg ∧ Cond.code y b nLy r ∈ tg ∧ x.name ≠ "<init>" ∧ sb_up s x.cls owner
theorem cwSU_of {ret' : Option FieldType} (cx : Fx p s m args meth c A D cl tys cc nL own ret) (h : CwSU s own owner idx x y b nLy ret') (hcr : CwR R rm nLy mc ms cells slots y n As st0 rest ls nL) : (rm.cells = mc ∧ rm.slots = ms ∧ rm.frames + 1 ≤ R.frames ∧ 8 + (nLy + 11) + rm.locals ≤ R.locals ∧ (∀ w ∈ (Cond.code y b nLy ret' :: tg), ∀ (a' : Array Value) (U : State), s.WarmedH U.vm → w.before a' U = true) ∧ Cond.code y b nLy ret' ∈ (Cond.code y b nLy ret' :: tg)) ∧
      (Cond.methodLink own idx x).before args s = true ∧ (Cond.sameMethod x.cls owner x.name x.desc).before args s = true ∧ (Cond.superclass own x.cls).before args s = true ∧ (Cond.instanceMethod y).before args s = true ∧ (Cond.initialized y.cls).before args s = true ∧ (Cond.code y b nLy ret').before args s = true ∧ x.name ≠ "<init>" ∧ (∀ sig, parseMethodDescriptor y.desc = some sig → n = sig.parameters.length) ∧ sb_up s x.cls owner := by
  obtain ⟨hd, hn, hls, hca, hR, hf, hrc, hrs⟩ := hcr
  obtain ⟨hy, h1, h2, h3, h4, h5, h6, h7, h8⟩ := h
  refine ⟨⟨hrc, hrs, hR.1, hR.2, pay_in cx.ts (gd_C h6), List.mem_cons_self⟩, cx.ts _ h1, cx.ts _ h2, cx.ts _ h3, cx.ts _ h4, cx.ts _ h5, cx.ts _ h6, h7, fun sig h => ?_, h8⟩
  have h2 := hd.2.2
  rw [h] at h2
  exact (Option.some.inj h2).symm
theorem Fx.cAt {ci : Nat} (cx : Fx p s m args meth c A D cl tys cc nL own ret) (hc : cl[ci]? = some (C, T, N)) : ClassAt s C (D.1 ci) := (cx.k.1 ci _ hc).2
theorem rSU_xi {S : Type} {w : S → va_W} {post : Int32 → S → Prop} {px : String → S → Prop} (cx : Fx p s m args meth c A D cl tys cc nL own ret) (hw : Wd D cl A s H locs w0) (hM : XI l y b nLy ry rm D cl tys (.ref a :: As) w w0 post px mc ms)
    (hg : CwSU s own owner idx x y b nLy (some ry)) (hcr : CwR R rm nLy mc ms cells slots y n As st0 rest ls nL) (hst : st0 = As.reverse ++ .ref a :: rest) (he : w0[q0]? = some (a, .inr (ci, fs))) (hc : cl[ci]? = some (C, T, N)) (hdg : decode cc pc = .ok (.invokespecial idx, 3)) :
    RunsXI p l e R s m args below meth c H locs cells slots pc ls st0 rest D cl w w0 post px mc ms :=
  ⟨_, bx_runSU (cx.cAt hc) cx.1 (hM H.size) hg.1 (cwSU_of cx hg hcr) ⟨bz_blind, hw.recv cx he hc, hw.pre cx⟩ rfl hcr.2.1 hcr.2.2.1 hst (lv_room hcr.2.2.2.1) hdg hcr.2.2.2.2.2.1⟩
theorem rSU_xv {S : Type} {w : S → va_W} {post : S → Prop} {px : String → S → Prop} (cx : Fx p s m args meth c A D cl tys cc nL own ret) (hw : Wd D cl A s H locs w0) (hM : XV l y b nLy rm D cl tys (.ref a :: As) w w0 post px mc ms)
    (hg : CwSU s own owner idx x y b nLy none) (hcr : CwR R rm nLy mc ms cells slots y n As st0 rest ls nL) (hst : st0 = As.reverse ++ .ref a :: rest) (he : w0[q0]? = some (a, .inr (ci, fs))) (hc : cl[ci]? = some (C, T, N)) (hdg : decode cc pc = .ok (.invokespecial idx, 3)) :
    RunsXV p l e R s m args below meth c H locs cells slots pc ls st0 rest D cl w w0 post px mc ms :=
  ⟨_, bx_runSU (cx.cAt hc) cx.1 (hM H.size) hg.1 (cwSU_of cx hg hcr) ⟨bz_blind, hw.recv cx he hc, hw.pre cx⟩ rfl hcr.2.1 hcr.2.2.1 hst (lv_room hcr.2.2.2.1) hdg hcr.2.2.2.2.2.1⟩
theorem rSU_i {S : Type} {w : S → va_W} {post : Int32 → S → Prop} (cx : Fx p s m args meth c A D cl tys cc nL own ret) (hw : Wd D cl A s H locs w0) (hM : MI l y b nLy ry rm D cl tys (.ref a :: As) w w0 post mc ms)
    (hg : CwSU s own owner idx x y b nLy (some ry)) (hcr : CwR R rm nLy mc ms cells slots y n As st0 rest ls nL) (hst : st0 = As.reverse ++ .ref a :: rest) (he : w0[q0]? = some (a, .inr (ci, fs))) (hc : cl[ci]? = some (C, T, N)) (hdg : decode cc pc = .ok (.invokespecial idx, 3)) :
    RunsI p l e R s m args below meth c H locs cells slots pc ls st0 rest D cl w w0 post mc ms :=
  ⟨_, RunOfX (bx_runSU (cx.cAt hc) cx.1 (MetToX _ (hM H.size)) hg.1 (cwSU_of cx hg hcr) ⟨bz_blind, hw.recv cx he hc, hw.pre cx⟩ rfl hcr.2.1 hcr.2.2.1 hst (lv_room hcr.2.2.2.1) hdg hcr.2.2.2.2.2.1)⟩
theorem rSU_v {S : Type} {w : S → va_W} {post : S → Prop} (cx : Fx p s m args meth c A D cl tys cc nL own ret) (hw : Wd D cl A s H locs w0) (hM : MV l y b nLy rm D cl tys (.ref a :: As) w w0 post mc ms)
    (hg : CwSU s own owner idx x y b nLy none) (hcr : CwR R rm nLy mc ms cells slots y n As st0 rest ls nL) (hst : st0 = As.reverse ++ .ref a :: rest) (he : w0[q0]? = some (a, .inr (ci, fs))) (hc : cl[ci]? = some (C, T, N)) (hdg : decode cc pc = .ok (.invokespecial idx, 3)) :
    RunsV p l e R s m args below meth c H locs cells slots pc ls st0 rest D cl w w0 post mc ms :=
  ⟨_, RunOfX (bx_runSU (cx.cAt hc) cx.1 (MetToX _ (hM H.size)) hg.1 (cwSU_of cx hg hcr) ⟨bz_blind, hw.recv cx he hc, hw.pre cx⟩ rfl hcr.2.1 hcr.2.2.1 hst (lv_room hcr.2.2.2.1) hdg hcr.2.2.2.2.2.1)⟩
/-- the words of a call by the receiver: the named x, its owner, the selected y -/
def CwU (own C owner : String) (idx : Nat) (x y : MethodName) (b : ByteArray) (nLy : Nat) (r : Option FieldType) : Prop :=
  Cond.methodLink own idx x ∈ tg ∧ Cond.sameMethod x.cls owner x.name x.desc ∈ tg ∧ Cond.instanceMethod ⟨owner, x.name, x.desc⟩ ∈ tg ∧ Cond.selects C x y ∈ tg ∧ Cond.instanceMethod y ∈ tg ∧ Cond.initialized y.cls ∈ tg ∧ Cond.code y b nLy r ∈ tg ∧ (∃ b0 m0 r0, Cond.code ⟨owner, x.name, x.desc⟩ b0 m0 r0 ∈ tg) ∧ (owner ≠ "java/lang/invoke/MethodHandle" ∧ owner ≠ "java/lang/invoke/VarHandle") ∧ x.desc = y.desc
theorem cwU_of {ret' : Option FieldType} (cx : Fx p s m args meth c A D cl tys cc nL own ret) (h : CwU own C owner idx x y b nLy ret') (hcr : CwR R rm nLy mc ms cells slots y n As st0 rest ls nL) : va_CU R s args own C owner idx x y b nLy ret' (Cond.code y b nLy ret' :: tg) rm mc ms n := by
  obtain ⟨hd, hn, hls, hca, hR, hf, hrc, hrs⟩ := hcr
  obtain ⟨h1, h2, h3, h4, h5, h6, h7, ⟨b0, m0, r0, h8⟩, h9, h10⟩ := h
  exact va_cwO n cx.ts (gd_O h1 h2 h3 h4 h5 h6 h7) rfl hrc hrs h8 ⟨h9.1, h9.2, by rw [h10]; exact hd.2.2⟩ hR
theorem rU_xi {S : Type} {w : S → va_W} {post : Int32 → S → Prop} {px : String → S → Prop} (cx : Fx p s m args meth c A D cl tys cc nL own ret) (hw : Wd D cl A s H locs w0) (hM : XI l y b nLy ry rm D cl tys (.ref a :: As) w w0 post px mc ms)
    (hg : CwU own C owner idx x y b nLy (some ry)) (hcr : CwR R rm nLy mc ms cells slots y n As st0 rest ls nL) (hst : st0 = As.reverse ++ .ref a :: rest) (he : w0[q0]? = some (a, .inr (ci, fs))) (hc : cl[ci]? = some (C, T, N)) (hdg : decode cc pc = .ok (.invokevirtual idx, 3)) :
    RunsXI p l e R s m args below meth c H locs cells slots pc ls st0 rest D cl w w0 post px mc ms :=
  ⟨_, bx_runU cx.1 (hM H.size) (cwU_of cx hg hcr) ⟨bz_blind, hw.recv cx he hc, hw.pre cx⟩ rfl hcr.2.1 hcr.2.2.1 hst (lv_room hcr.2.2.2.1) hdg hcr.2.2.2.2.2.1⟩
theorem rU_xv {S : Type} {w : S → va_W} {post : S → Prop} {px : String → S → Prop} (cx : Fx p s m args meth c A D cl tys cc nL own ret) (hw : Wd D cl A s H locs w0) (hM : XV l y b nLy rm D cl tys (.ref a :: As) w w0 post px mc ms)
    (hg : CwU own C owner idx x y b nLy none) (hcr : CwR R rm nLy mc ms cells slots y n As st0 rest ls nL) (hst : st0 = As.reverse ++ .ref a :: rest) (he : w0[q0]? = some (a, .inr (ci, fs))) (hc : cl[ci]? = some (C, T, N)) (hdg : decode cc pc = .ok (.invokevirtual idx, 3)) :
    RunsXV p l e R s m args below meth c H locs cells slots pc ls st0 rest D cl w w0 post px mc ms :=
  ⟨_, bx_runU cx.1 (hM H.size) (cwU_of cx hg hcr) ⟨bz_blind, hw.recv cx he hc, hw.pre cx⟩ rfl hcr.2.1 hcr.2.2.1 hst (lv_room hcr.2.2.2.1) hdg hcr.2.2.2.2.2.1⟩
theorem rU_i {S : Type} {w : S → va_W} {post : Int32 → S → Prop} (cx : Fx p s m args meth c A D cl tys cc nL own ret) (hw : Wd D cl A s H locs w0) (hM : MI l y b nLy ry rm D cl tys (.ref a :: As) w w0 post mc ms)
    (hg : CwU own C owner idx x y b nLy (some ry)) (hcr : CwR R rm nLy mc ms cells slots y n As st0 rest ls nL) (hst : st0 = As.reverse ++ .ref a :: rest) (he : w0[q0]? = some (a, .inr (ci, fs))) (hc : cl[ci]? = some (C, T, N)) (hdg : decode cc pc = .ok (.invokevirtual idx, 3)) :
    RunsI p l e R s m args below meth c H locs cells slots pc ls st0 rest D cl w w0 post mc ms :=
  ⟨_, va_runU cx.1 (hM H.size) (cwU_of cx hg hcr) ⟨bz_blind, hw.recv cx he hc, hw.pre cx⟩ rfl hcr.2.1 hcr.2.2.1 hst (lv_room hcr.2.2.2.1) hdg hcr.2.2.2.2.2.1⟩
theorem rU_v {S : Type} {w : S → va_W} {post : S → Prop} (cx : Fx p s m args meth c A D cl tys cc nL own ret) (hw : Wd D cl A s H locs w0) (hM : MV l y b nLy rm D cl tys (.ref a :: As) w w0 post mc ms)
    (hg : CwU own C owner idx x y b nLy none) (hcr : CwR R rm nLy mc ms cells slots y n As st0 rest ls nL) (hst : st0 = As.reverse ++ .ref a :: rest) (he : w0[q0]? = some (a, .inr (ci, fs))) (hc : cl[ci]? = some (C, T, N)) (hdg : decode cc pc = .ok (.invokevirtual idx, 3)) :
    RunsV p l e R s m args below meth c H locs cells slots pc ls st0 rest D cl w w0 post mc ms :=
  ⟨_, va_runU cx.1 (hM H.size) (cwU_of cx hg hcr) ⟨bz_blind, hw.recv cx he hc, hw.pre cx⟩ rfl hcr.2.1 hcr.2.2.1 hst (lv_room hcr.2.2.2.1) hdg hcr.2.2.2.2.2.1⟩
theorem MI.toX {S : Type} {w : S → va_W} {post : Int32 → S → Prop} {as : List Value} (px : String → S → Prop) (h : MI l y b nLy ry rm D cl tys as w w0 post mc ms) : XI l y b nLy ry rm D cl tys as w w0 post px mc ms := fun sz => MetToX _ (h sz)
theorem MV.toX {S : Type} {w : S → va_W} {post : S → Prop} {as : List Value} (px : String → S → Prop) (h : MV l y b nLy rm D cl tys as w w0 post mc ms) : XV l y b nLy rm D cl tys as w w0 post px mc ms := fun sz => MetToX _ (h sz)
end Calls7
end
section
/-! bodies: how a contract is entered and left; fields and arrays of a world -/
section Body7
variable {p : Program} {l : Launch} {e : Env} {R : Room} {s : State} {m : MethodId} {args : Array Value} {below : List Frame} {meth : Method} {c : Code} {H : Heap} {locs : List Loc} {cells slots : Nat} {Q : State → Prop}
variable {A : Nat → Prop} {D : va_G} {cl : List vw_C} {tys : List (ClassId × FieldType)} {cc : ByteArray} {nL : Nat} {own : String} {ret : Option FieldType} {w0 : va_W}
variable {pc : Nat} {ls : Array Slot} {rest st0 : List Value}
variable {S : Type} {w : S → va_W} {mc ms : Nat} {y : MethodName} {rm : Room} {as : List Value}
/-- what a body owes at its end -/
def QI (D : va_G) (cl : List vw_C) (w : S → va_W) (A : Nat → Prop) (post : Int32 → S → Prop) (below : List Frame) (args : Array Value) (s : State) (mc ms : Nat) : State → Prop := MQ below (va_Qi post (fun u t => va_P D cl (w u) t.heap ∧ va_D A (w u)) A) args s mc ms A
def QV (D : va_G) (cl : List vw_C) (w : S → va_W) (A : Nat → Prop) (post : S → Prop) (below : List Frame) (args : Array Value) (s : State) (mc ms : Nat) : State → Prop := MQ below (va_Qv post (fun u t => va_P D cl (w u) t.heap ∧ va_D A (w u)) A) args s mc ms A
def QR (D : va_G) (cl : List vw_C) (w : S → va_W) (A : Nat → Prop) (post : Option Nat → S → Prop) (below : List Frame) (args : Array Value) (s : State) (mc ms : Nat) : State → Prop := MQ below (va_Qq post (fun u t => va_P D cl (w u) t.heap ∧ va_D A (w u)) A) args s mc ms A
def QX (D : va_G) (cl : List vw_C) (w : S → va_W) (A : Nat → Prop) (px : String → S → Prop) : String → State → State → Prop := vx_X (fun _ : S => True) (fun E u t => px E u ∧ va_P D cl (w u) t.heap ∧ va_D A (w u)) A
def QXI (D : va_G) (cl : List vw_C) (w : S → va_W) (A : Nat → Prop) (post : Int32 → S → Prop) (px : String → S → Prop) (below : List Frame) (args : Array Value) (s : State) (mc ms : Nat) : State → Prop := vx_MQ below (va_Qi post (fun u t => va_P D cl (w u) t.heap ∧ va_D A (w u)) A) (QX D cl w A px) args s mc ms A
def QXV (D : va_G) (cl : List vw_C) (w : S → va_W) (A : Nat → Prop) (post : S → Prop) (px : String → S → Prop) (below : List Frame) (args : Array Value) (s : State) (mc ms : Nat) : State → Prop := vx_MQ below (va_Qv post (fun u t => va_P D cl (w u) t.heap ∧ va_D A (w u)) A) (QX D cl w A px) args s mc ms A
theorem body_cx {ws' : List Cond} {s₁ : State} {sz : Nat} {maxL : Nat} (B : BodyLoose p l y (headSpec (.code y cc maxL ret :: tg) rm) cc maxL ret e s m args below meth c s₁) (hml : c.maxLocals = maxL) (hv : va_Pc as (bz_pre D cl tys w0 sz) args s) : args = as.toArray ∧ s.heap.size = sz ∧ Fx p s m args meth c (va_A w0 sz) D cl tys cc maxL y.cls ret ∧ Wd D cl (va_A w0 sz) s s.heap [] w0 := by
  obtain ⟨ha, hsz, hP, hK, hD, hE⟩ := hv
  refine ⟨ha, hsz, ⟨⟨B.exec, B.bytes, hml, findClass_of_methodNamed B.named, fun w h => atoms_spec (ws := .code y cc maxL ret :: tg) B.pre w (List.mem_cons_of_mem _ h)⟩, B.returns, B.notSynchronized, hK, hE, fun q h => Or.inr (by rw [← hsz]; exact h)⟩, hP, hD.self, va_S.rf⟩
theorem MI_of {b : ByteArray} {ry : FieldType} {post : Int32 → S → Prop} {nL : Nat} (hy : plainName y.cls = true) (hn : (lg_sl as).length ≤ nL)
    (body : ∀ (p : Program) (e : Env) (s : State) (m : MethodId) (args : Array Value) (below : List Frame) (meth : Method) (c : Code) (A : Nat → Prop) (ls : Array Slot), Fx p s m args meth c A D cl tys b nL y.cls (some ry) → Wd D cl A s s.heap [] w0 → lv_has ls nL (lv_args 0 as) → W p l e rm s m args below meth c s.heap [] 0 0 (QI D cl w A post below args s mc ms) (F0 m 0 ls [])) : MI l y b nL ry rm D cl tys as w w0 post mc ms := by
  intro sz
  refine Met.ofW (cc := b) (maxL := nL) (ret := some ry) hy rfl ?_
  intro p e s m args below meth c s₁ B hml hv
  obtain ⟨rfl, hsz, hx, hw⟩ := body_cx (ws' := []) B hml hv
  rw [lg_entry_eq]
  exact body p e s m _ below meth c (va_A w0 sz) _ hx hw (lv_entry as hn)
theorem MV_of {b : ByteArray} {post : S → Prop} {nL : Nat} (hy : plainName y.cls = true) (hn : (lg_sl as).length ≤ nL)
    (body : ∀ (p : Program) (e : Env) (s : State) (m : MethodId) (args : Array Value) (below : List Frame) (meth : Method) (c : Code) (A : Nat → Prop) (ls : Array Slot), Fx p s m args meth c A D cl tys b nL y.cls none → Wd D cl A s s.heap [] w0 → lv_has ls nL (lv_args 0 as) → W p l e rm s m args below meth c s.heap [] 0 0 (QV D cl w A post below args s mc ms) (F0 m 0 ls [])) : MV l y b nL rm D cl tys as w w0 post mc ms := by
  intro sz
  refine Met.ofW (cc := b) (maxL := nL) (ret := none) hy rfl ?_
  intro p e s m args below meth c s₁ B hml hv
  obtain ⟨rfl, hsz, hx, hw⟩ := body_cx (ws' := []) B hml hv
  rw [lg_entry_eq]
  exact body p e s m _ below meth c (va_A w0 sz) _ hx hw (lv_entry as hn)
/-- a constructor: its name is known too -/
theorem MVi_of {b : ByteArray} {post : S → Prop} {nL : Nat} (hy : plainName y.cls = true) (hyn : y.name = "<init>") (hn : (lg_sl as).length ≤ nL)
    (body : ∀ (p : Program) (e : Env) (s : State) (m : MethodId) (args : Array Value) (below : List Frame) (meth : Method) (c : Code) (A : Nat → Prop) (ls : Array Slot), meth.name = "<init>" → Fx p s m args meth c A D cl tys b nL y.cls none → Wd D cl A s s.heap [] w0 → lv_has ls nL (lv_args 0 as) → W p l e rm s m args below meth c s.heap [] 0 0 (QV D cl w A post below args s mc ms) (F0 m 0 ls [])) : MV l y b nL rm D cl tys as w w0 post mc ms := by
  intro sz
  refine Met.ofW (cc := b) (maxL := nL) (ret := none) hy rfl ?_
  intro p e s m args below meth c s₁ B hml hv
  obtain ⟨rfl, hsz, hx, hw⟩ := body_cx (ws' := []) B hml hv
  rw [lg_entry_eq]
  exact body p e s m _ below meth c (va_A w0 sz) _ ((name_of_methodNamed B.named B.method).1.trans hyn) hx hw (lv_entry as hn)
theorem MR_of {b : ByteArray} {ry : FieldType} {post : Option Nat → S → Prop} {nL : Nat} (hy : plainName y.cls = true) (hn : (lg_sl as).length ≤ nL)
    (body : ∀ (p : Program) (e : Env) (s : State) (m : MethodId) (args : Array Value) (below : List Frame) (meth : Method) (c : Code) (A : Nat → Prop) (ls : Array Slot), Fx p s m args meth c A D cl tys b nL y.cls (some ry) → Wd D cl A s s.heap [] w0 → lv_has ls nL (lv_args 0 as) → W p l e rm s m args below meth c s.heap [] 0 0 (QR D cl w A post below args s mc ms) (F0 m 0 ls [])) : MR l y b nL ry rm D cl tys as w w0 post mc ms := by
  intro sz
  refine Met.ofW (cc := b) (maxL := nL) (ret := some ry) hy rfl ?_
  intro p e s m args below meth c s₁ B hml hv
  obtain ⟨rfl, hsz, hx, hw⟩ := body_cx (ws' := []) B hml hv
  rw [lg_entry_eq]
  exact body p e s m _ below meth c (va_A w0 sz) _ hx hw (lv_entry as hn)
theorem XI_of {b : ByteArray} {ry : FieldType} {post : Int32 → S → Prop} {px : String → S → Prop} {nL : Nat} (hy : plainName y.cls = true) (hn : (lg_sl as).length ≤ nL)
    (body : ∀ (p : Program) (e : Env) (s : State) (m : MethodId) (args : Array Value) (below : List Frame) (meth : Method) (c : Code) (A : Nat → Prop) (ls : Array Slot), (∀ x ∈ c.exceptionTable.toList, False) → Fx p s m args meth c A D cl tys b nL y.cls (some ry) → Wd D cl A s s.heap [] w0 → lv_has ls nL (lv_args 0 as) → W p l e rm s m args below meth c s.heap [] 0 0 (QXI D cl w A post px below args s mc ms) (F0 m 0 ls [])) : XI l y b nL ry rm D cl tys as w w0 post px mc ms := by
  intro sz
  refine vx_ofW (cc := b) (maxL := nL) (ret := some ry) hy rfl ?_
  intro p e s m args below meth c s₁ B hml ht hv
  obtain ⟨rfl, hsz, hx, hw⟩ := body_cx (ws' := []) B hml hv
  rw [lg_entry_eq]
  exact body p e s m _ below meth c (va_A w0 sz) _ ht hx hw (lv_entry as hn)
theorem XV_of {b : ByteArray} {post : S → Prop} {px : String → S → Prop} {nL : Nat} (hy : plainName y.cls = true) (hn : (lg_sl as).length ≤ nL)
    (body : ∀ (p : Program) (e : Env) (s : State) (m : MethodId) (args : Array Value) (below : List Frame) (meth : Method) (c : Code) (A : Nat → Prop) (ls : Array Slot), (∀ x ∈ c.exceptionTable.toList, False) → Fx p s m args meth c A D cl tys b nL y.cls none → Wd D cl A s s.heap [] w0 → lv_has ls nL (lv_args 0 as) → W p l e rm s m args below meth c s.heap [] 0 0 (QXV D cl w A post px below args s mc ms) (F0 m 0 ls [])) : XV l y b nL rm D cl tys as w w0 post px mc ms := by
  intro sz
  refine vx_ofW (cc := b) (maxL := nL) (ret := none) hy rfl ?_
  intro p e s m args below meth c s₁ B hml ht hv
  obtain ⟨rfl, hsz, hx, hw⟩ := body_cx (ws' := []) B hml hv
  rw [lg_entry_eq]
  exact body p e s m _ below meth c (va_A w0 sz) _ ht hx hw (lv_entry as hn)
variable {v : Int32}
theorem ret_i {post : Int32 → S → Prop} (u : S) (cx : Fx p s m args meth c A D cl tys cc nL own (some .int)) (hw : Wd D cl A s H locs (w u)) (hp : post v u) (hdg : decode cc pc = .ok (.ireturn, 1)) (hc : cells ≤ mc) (hs : slots ≤ ms) : W p l e R s m args below meth c H locs cells slots (QI D cl w A post below args s mc ms) (F0 m pc ls [.int v]) := by
  refine W.widen hc hs ?_
  exact W.iret cx.x cx.b cx.r (fun t ht _ => ⟨⟨v, u, rfl, hp, by rw [ht]; exact hw.1, hw.2.1⟩, hw.2.2.F ht⟩) hw.2.2.2.2 hdg cx.lk
theorem ret_z {post : Int32 → S → Prop} (u : S) (cx : Fx p s m args meth c A D cl tys cc nL own (some .boolean)) (hw : Wd D cl A s H locs (w u)) (hv : narrow .boolean (.int v) = .int v) (hp : post v u) (hdg : decode cc pc = .ok (.ireturn, 1)) (hc : cells ≤ mc) (hs : slots ≤ ms) : W p l e R s m args below meth c H locs cells slots (QI D cl w A post below args s mc ms) (F0 m pc ls [.int v]) := by
  refine W.widen hc hs ?_
  exact W.zret cx.x cx.b cx.r hv (fun t ht _ => ⟨⟨v, u, rfl, hp, by rw [ht]; exact hw.1, hw.2.1⟩, hw.2.2.F ht⟩) hw.2.2.2.2 hdg cx.lk
theorem ret_v {post : S → Prop} (u : S) (cx : Fx p s m args meth c A D cl tys cc nL own none) (hw : Wd D cl A s H locs (w u)) (hp : post u) (hdg : decode cc pc = .ok (.return_, 1)) (hc : cells ≤ mc) (hs : slots ≤ ms) : W p l e R s m args below meth c H locs cells slots (QV D cl w A post below args s mc ms) (F0 m pc ls []) := by
  refine W.widen hc hs ?_
  exact W.vret cx.x cx.b cx.r (fun t ht _ => ⟨⟨u, rfl, hp, by rw [ht]; exact hw.1, hw.2.1⟩, hw.2.2.F ht⟩) hw.2.2.2.2 hdg cx.lk
theorem ret_r {post : Option Nat → S → Prop} {n : String} {r : Option Nat} (u : S) (cx : Fx p s m args meth c A D cl tys cc nL own (some (.object n))) (hw : Wd D cl A s H locs (w u)) (hp : post r u) (hdg : decode cc pc = .ok (.areturn, 1)) (hc : cells ≤ mc) (hs : slots ≤ ms) : W p l e R s m args below meth c H locs cells slots (QR D cl w A post below args s mc ms) (F0 m pc ls [va_rf r]) := by
  refine W.widen hc hs ?_
  exact W.aret cx.x cx.b cx.r (Or.inl ⟨n, rfl⟩) (by cases r with | none => exact Or.inl rfl | some a => exact Or.inr ⟨a, rfl⟩) (fun t ht _ => ⟨⟨r, u, rfl, hp, by rw [ht]; exact hw.1, hw.2.1⟩, hw.2.2.F ht⟩) hw.2.2.2.2 hdg cx.lk
theorem xret_i {post : Int32 → S → Prop} {px : String → S → Prop} (u : S) (cx : Fx p s m args meth c A D cl tys cc nL own (some .int)) (hw : Wd D cl A s H locs (w u)) (hp : post v u) (hdg : decode cc pc = .ok (.ireturn, 1)) (hc : cells ≤ mc) (hs : slots ≤ ms) : W p l e R s m args below meth c H locs cells slots (QXI D cl w A post px below args s mc ms) (F0 m pc ls [.int v]) := vx_ret (ret_i u cx hw hp hdg hc hs)
theorem xret_z {post : Int32 → S → Prop} {px : String → S → Prop} (u : S) (cx : Fx p s m args meth c A D cl tys cc nL own (some .boolean)) (hw : Wd D cl A s H locs (w u)) (hv : narrow .boolean (.int v) = .int v) (hp : post v u) (hdg : decode cc pc = .ok (.ireturn, 1)) (hc : cells ≤ mc) (hs : slots ≤ ms) : W p l e R s m args below meth c H locs cells slots (QXI D cl w A post px below args s mc ms) (F0 m pc ls [.int v]) := vx_ret (ret_z u cx hw hv hp hdg hc hs)
theorem xret_v {post : S → Prop} {px : String → S → Prop} (u : S) (cx : Fx p s m args meth c A D cl tys cc nL own none) (hw : Wd D cl A s H locs (w u)) (hp : post u) (hdg : decode cc pc = .ok (.return_, 1)) (hc : cells ≤ mc) (hs : slots ≤ ms) : W p l e R s m args below meth c H locs cells slots (QXV D cl w A post px below args s mc ms) (F0 m pc ls []) := vx_ret (ret_v u cx hw hp hdg hc hs)
/-- an exception goes on to the caller -/
theorem xout_i {post : Int32 → S → Prop} {px : String → S → Prop} {E : String} {ce : Cell} {q : Addr} (u : S) (ht : ∀ x ∈ c.exceptionTable.toList, False) (cx : Fx p s m args meth c A D cl tys cc nL own ret) (hw : Wd D cl A s H locs (w u)) (hp : px E u) (hc : cells ≤ mc) (hs : slots ≤ ms) (h1 : H[q]? = some ce) (h2 : ce.vm = .none) (h3 : s.vm.findClass E = some ce.cls) : vx_W p l e R s m args below meth c H locs cells slots (QXI D cl w A post px below args s mc ms) (F0 m pc ls rest) q :=
  vx_out (fun x hx => (ht x hx).elim) cx.lk h1 h2 h3 (fun t ht _ => ⟨u, trivial, ⟨hp, by rw [ht]; exact hw.1, hw.2.1⟩, hw.2.2.F ht⟩) hw.2.2.2.2 hc hs
theorem xout_v {post : S → Prop} {px : String → S → Prop} {E : String} {ce : Cell} {q : Addr} (u : S) (ht : ∀ x ∈ c.exceptionTable.toList, False) (cx : Fx p s m args meth c A D cl tys cc nL own ret) (hw : Wd D cl A s H locs (w u)) (hp : px E u) (hc : cells ≤ mc) (hs : slots ≤ ms) (h1 : H[q]? = some ce) (h2 : ce.vm = .none) (h3 : s.vm.findClass E = some ce.cls) : vx_W p l e R s m args below meth c H locs cells slots (QXV D cl w A post px below args s mc ms) (F0 m pc ls rest) q :=
  vx_out (fun x hx => (ht x hx).elim) cx.lk h1 h2 h3 (fun t ht _ => ⟨u, trivial, ⟨hp, by rw [ht]; exact hw.1, hw.2.1⟩, hw.2.2.F ht⟩) hw.2.2.2.2 hc hs
variable {a ci idx : Nat} {C ref : String} {T : u_T} {N : Nat} {fs : List Value}
/-- a field is read: the named class declares it, or it is the same field -/
theorem gt_f (cx : Fx p s m args meth c A D cl tys cc nL own ret) (hw : Wd D cl A s H locs w0) (q0 : Nat) (he : w0[q0]? = some (a, .inr (ci, fs))) (hc : cl[ci]? = some (C, T, N)) (hin : ∀ x ∈ u_ws C T N, x ∈ tg) (k : Nat) (hk : k < N) {fn fd : String} (hlink : Cond.fieldLink own idx ref fn fd ∈ tg) (hT : fn = (T k).2.1 ∧ fd = (T k).2.2.1 ∧ (ref = (T k).1 ∨ Cond.sameField ref (T k).1 fn fd ∈ tg)) {v : Value} (hv : fs[k]? = some v) (hdg : decode cc pc = .ok (.getfield idx, 3))
    (kk : W p l e R s m args below meth c H locs cells slots Q (F0 m (pc + 3) ls (v :: rest))) : W p l e R s m args below meth c H locs cells slots Q (F0 m pc ls (.ref a :: rest)) := by
  obtain ⟨rfl, rfl, hs⟩ := hT
  refine va_get cx.x cx.b cx.ts hin cx.ow cx.k hw.1 q0 he hc k hk (cx.ts _ hlink) (fun x hx => ?_) hv hdg kk
  rcases hs with rfl | hs
  · exact hx
  · exact u_same (cx.ts _ hs) x hx
theorem pt_f (cx : Fx p s m args meth c A D cl tys cc nL own ret) (hw : Wd D cl A s H locs w0) (q0 : Nat) (he : w0[q0]? = some (a, .inr (ci, fs))) (hc : cl[ci]? = some (C, T, N)) (hin : ∀ x ∈ u_ws C T N, x ∈ tg) (ty0 : Nat → FieldType) (hty : ∀ k, k < N → parseFieldDescriptor (T k).2.2.1 = some (ty0 k)) (hnm : ∀ a, a < N → ∀ b, b < N → a ≠ b → (T a).2.1 ≠ (T b).2.1) (k : Nat) (hk : k < N) {fn fd : String} (hlink : Cond.fieldLink own idx ref fn fd ∈ tg) (hT : fn = (T k).2.1 ∧ fd = (T k).2.2.1 ∧ (ref = (T k).1 ∨ Cond.sameField ref (T k).1 fn fd ∈ tg)) (hfin : (T k).2.2.2 = false) {ty : FieldType} {v : Value} (hd : ty0 k = ty) (hn : narrow ty v = v) (hfit : fits ty v = true) (hl : k < fs.length) (hdg : decode cc pc = .ok (.putfield idx, 3)) {w1 : va_W} (hset : w0.set q0 (a, .inr (ci, fs.set k v)) = w1)
    (kk : ∀ (H1 : Heap) (locs1 : List Loc), Wd D cl A s H1 locs1 w1 → W p l e R s m args below meth c H1 locs1 cells slots Q (F0 m (pc + 3) ls rest)) : W p l e R s m args below meth c H locs cells slots Q (F0 m pc ls (v :: .ref a :: rest)) := by
  obtain ⟨rfl, rfl, hs⟩ := hT
  subst hset
  refine va_put cx.x cx.b cx.ts hin ty0 hty hnm cx.ow cx.k hw.1 hw.2.1 hw.2.2 q0 he hc k hk (cx.ts _ hlink) (fun x hx => ?_) hfin (by rw [hty k hk, hd]) hn hfit hl hdg (fun H1 locs1 h1 h2 h3 => kk H1 locs1 ⟨h1, h2, h3⟩)
  rcases hs with rfl | hs
  · exact hx
  · exact u_same (cx.ts _ hs) x hx
/-- a final field, in its constructor -/
theorem ptF_f (cx : Fx p s m args meth c A D cl tys cc nL own ret) (hin2 : meth.name = "<init>") (hw : Wd D cl A s H locs w0) (q0 : Nat) (he : w0[q0]? = some (a, .inr (ci, fs))) (hc : cl[ci]? = some (C, T, N)) (hin : ∀ x ∈ u_ws C T N, x ∈ tg) (ty0 : Nat → FieldType) (hty : ∀ k, k < N → parseFieldDescriptor (T k).2.2.1 = some (ty0 k)) (hnm : ∀ a, a < N → ∀ b, b < N → a ≠ b → (T a).2.1 ≠ (T b).2.1) (k : Nat) (hk : k < N) {fn fd : String} (hlink : Cond.fieldLink own idx ref fn fd ∈ tg) (hT : fn = (T k).2.1 ∧ fd = (T k).2.2.1 ∧ ref = (T k).1 ∧ (T k).1 = own) (hfin : (T k).2.2.2 = true) {ty : FieldType} {v : Value} (hd : ty0 k = ty) (hn : narrow ty v = v) (hfit : fits ty v = true) (hl : k < fs.length) (hdg : decode cc pc = .ok (.putfield idx, 3)) {w1 : va_W} (hset : w0.set q0 (a, .inr (ci, fs.set k v)) = w1)
    (kk : ∀ (H1 : Heap) (locs1 : List Loc), Wd D cl A s H1 locs1 w1 → W p l e R s m args below meth c H1 locs1 cells slots Q (F0 m (pc + 3) ls rest)) : W p l e R s m args below meth c H locs cells slots Q (F0 m pc ls (v :: .ref a :: rest)) := by
  obtain ⟨rfl, rfl, rfl, ho⟩ := hT
  subst hset
  exact va_putF cx.x cx.b cx.ts hin ty0 hty hnm cx.ow cx.k hw.1 hw.2.1 hw.2.2 q0 he hc k hk (cx.ts _ hlink) (fun x hx => hx) hfin hin2 ho (by rw [hty k hk, hd]) hn hfit hl hdg (fun H1 locs1 h1 h2 h3 => kk H1 locs1 ⟨h1, h2, h3⟩)
/-- int arrays -/
theorem ald_i (cx : Fx p s m args meth c A D cl tys cc nL own ret) (hw : Wd D cl A s H locs w0) (q0 t0 : Nat) {cA : ClassId} {n : Nat} {f : Nat → Int32} (ha : w0[q0]? = some (a, .inl (cA, n, .inl f))) (ht : tys[t0]? = some (cA, .int)) (j : Nat) {i : Int32} (hi : i = nI j) (hj : j < n) (hn : n < 2 ^ 31) (hdg : decode cc pc = .ok (.iaload, 1))
    (kk : W p l e R s m args below meth c H locs cells slots Q (F0 m (pc + 1) ls (.int (f j) :: rest))) : W p l e R s m args below meth c H locs cells slots Q (F0 m pc ls (.int i :: .ref a :: rest)) := by
  subst hi
  refine va_iald cx.x cx.b cx.k hw.1 q0 t0 ha ht (vp_in_nI hj hn) hdg ?_
  rw [nI_clamp (Nat.lt_trans hj hn)]
  exact kk
theorem ast_i (cx : Fx p s m args meth c A D cl tys cc nL own ret) (hw : Wd D cl A s H locs w0) (q0 t0 : Nat) {cA : ClassId} {n : Nat} {f : Nat → Int32} (ha : w0[q0]? = some (a, .inl (cA, n, .inl f))) (ht : tys[t0]? = some (cA, .int)) (j : Nat) {i x : Int32} (hi : i = nI j) (hj : j < n) (hn : n < 2 ^ 31) (hdg : decode cc pc = .ok (.iastore, 1)) {w1 : va_W} (hset : w0.set q0 (a, .inl (cA, n, .inl (upd f j x))) = w1)
    (kk : ∀ (H1 : Heap) (locs1 : List Loc), Wd D cl A s H1 locs1 w1 → W p l e R s m args below meth c H1 locs1 cells slots Q (F0 m (pc + 1) ls rest)) : W p l e R s m args below meth c H locs cells slots Q (F0 m pc ls (.int x :: .int i :: .ref a :: rest)) := by
  subst hi
  subst hset
  refine va_iast cx.x cx.b cx.k hw.1 hw.2.1 hw.2.2 q0 t0 ha ht (vp_in_nI hj hn) hdg (fun H1 locs1 h1 h2 h3 => ?_)
  rw [nI_clamp (Nat.lt_trans hj hn)] at h1 h2
  exact kk H1 locs1 ⟨h1, h2, h3⟩
/-- arrays of references -/
theorem ald_r (cx : Fx p s m args meth c A D cl tys cc nL own ret) (hw : Wd D cl A s H locs w0) (q0 t0 : Nat) {cA : ClassId} {n : Nat} {f : Nat → Option Nat} {C : String} (ha : w0[q0]? = some (a, .inl (cA, n, .inr (.inr (.inr (.inr f)))))) (ht : tys[t0]? = some (cA, .object C)) (j : Nat) {i : Int32} (hi : i = nI j) (hj : j < n) (hn : n < 2 ^ 31) (hdg : decode cc pc = .ok (.aaload, 1)) {v : Value} (hv : va_rf (f j) = v)
    (kk : W p l e R s m args below meth c H locs cells slots Q (F0 m (pc + 1) ls (v :: rest))) : W p l e R s m args below meth c H locs cells slots Q (F0 m pc ls (.int i :: .ref a :: rest)) := by
  subst hi
  subst hv
  refine va_aldq cx.x cx.b cx.k hw.1 q0 t0 ha ht (vp_in_nI hj hn) hdg ?_
  rw [nI_clamp (Nat.lt_trans hj hn)]
  exact kk
end Body7
end
section
/-! 'throw new E("text")' of the four plain kinds -/
def at_mem (own : String) (ic : Nat) (cls : String) (names : List String) : Prop := ∀ w ∈ (vx_atS own ic cls names).filter goodWord, w ∈ lw_tbl
set_option maxRecDepth 100000 in
theorem at_ISE : at_mem "BakeHouse$Brioche" 36 "java/lang/IllegalStateException" ["java/lang/RuntimeException", "java/lang/Exception"] := by unfold at_mem; decide +kernel
set_option maxRecDepth 100000 in
theorem at_ARI : at_mem "BakeHouse$Flat" 43 "java/lang/ArithmeticException" ["java/lang/RuntimeException", "java/lang/Exception"] := by unfold at_mem; decide +kernel
set_option maxRecDepth 100000 in
theorem at_NAS : at_mem "BakeHouse" 49 "java/lang/NegativeArraySizeException" ["java/lang/RuntimeException", "java/lang/Exception"] := by unfold at_mem; decide +kernel
set_option maxRecDepth 100000 in
theorem at_IOB : at_mem "BakeHouse$Dough" 73 "java/lang/ArrayIndexOutOfBoundsException" ["java/lang/IndexOutOfBoundsException", "java/lang/RuntimeException", "java/lang/Exception"] := by unfold at_mem; decide +kernel
section Thr8
variable {p : Program} {l : Launch} {e : Env} {R : Room} {s : State} {m : MethodId} {args : Array Value} {below : List Frame} {meth : Method} {c : Code} {H : Heap} {locs : List Loc} {cells slots : Nat} {Q : State → Prop}
variable {A : Nat → Prop} {D : va_G} {cl : List vw_C} {tys : List (ClassId × FieldType)} {cc : ByteArray} {nL : Nat} {own : String} {ret : Option FieldType}
variable {pc : Nat} {ls : Array Slot} {rest : List Value}
variable {S : Type} {w : S → va_W} {mc ms : Nat}
/-- what a throw needs of its words -/
def ThrOk (s : State) (args : Array Value) (own cls text : String) (names : List String) (ik is ic : Nat) : Prop :=
  Bundle.fit cls = true ∧ (∀ n ∈ names, Bundle.fit n = true) ∧ Cond.classLink own ik cls ∈ tg ∧ Cond.initialized cls ∈ tg ∧ (∃ sa, vk_R own is text sa s) ∧ (∀ w ∈ vx_atS own ic cls names, w.before args s = true) ∧ (∀ w ∈ Cond.classLink own ik cls :: Cond.initialized cls :: vx_atS own ic cls names, vx_ot w = true)
theorem thr_hat {cls : String} {names : List String} {ic : Nat} {B : List Cond} (cx : Fx p s m args meth c A D cl tys cc nL own ret) (hm : at_mem own ic cls names) (hB : ∀ w ∈ (vx_atS own ic cls names).filter (fun w => !goodWord w), w ∈ B) (hN : ∀ w ∈ B, w ∈ nw_C) : ∀ w ∈ vx_atS own ic cls names, w.before args s = true :=
  vx_hat (fun w hw => cx.ts w (tg_of (hm w hw) (List.mem_filter.mp hw).2)) hB (fun w hw => va_Nw.use (nw_Cot w (hN w hw)) (cx.ev.2.2.2.2.1 w (hN w hw)))
theorem thr_q {px : String → S → Prop} {Qc : Array Value → State → Outcome → State → Prop} (u : S) {cls text : String} {names : List String} {ik is ic : Nat} (hl : l.stackTraces = false) (ht : ∀ x ∈ c.exceptionTable.toList, False) (cx : Fx p s m args meth c A D cl tys cc nL own ret) (hw : Wd D cl A s H locs (w u)) (hok : ThrOk s args own cls text names ik is ic) (hls : ls.size = nL)
    (d0 : decode cc pc = .ok (.new ik, 3)) (d3 : decode cc (pc + 3) = .ok (.dup, 1)) (d4 : decode cc (pc + 4) = .ok (.ldc is, 2)) (d6 : decode cc (pc + 6) = .ok (.invokespecial ic, 3)) (d9 : decode cc (pc + 9) = .ok (.athrow, 1))
    (hR : names.length + 3 < R.frames ∧ (rest.map fun v => v.category).sum + (13 * (names.length + 1) + 43) ≤ R.locals ∧ cells + 1 ≤ R.cells ∧ slots + 6 ≤ R.slots) (hp : px cls u) (hc : cells + 1 ≤ mc) (hs : slots + 6 ≤ ms) :
    W p l e R s m args below meth c H locs cells slots (vx_MQ below Qc (QX D cl w A px) args s mc ms A) (F0 m pc ls rest) := by
  obtain ⟨h1, h2, h3, h4, ⟨sa, h5⟩, h6, h7⟩ := hok
  refine vx_throwS cx.x cx.b hl cx.ow h1 h2 (cx.ts _ h3) (cx.ts _ h4) h5 h6 h7 cx.ev.1 cx.ev.2.1 hw.2.2 (by rw [hls]; exact cx.ml.symm) d0 d3 d4 d6 d9 (fun x hx => (ht x hx).elim) hR.1 hR.2.1 hR.2.2.1 hR.2.2.2 cx.lk (fun t ha hz hq => ?_) hw.2.2.2.2 hc hs
  refine ⟨u, trivial, ⟨hp, hw.1.kept (fun k q hk => hq q.1 ((hw.1 k q hk).lt)), hw.2.1⟩, Nat.le_trans hw.2.2.1 hz, fun q h1 h2 => ?_⟩
  rw [hq q (Nat.lt_of_lt_of_le h1 hw.2.2.1)]
  exact hw.2.2.2.1 q h1 h2
theorem thr_i {post : Int32 → S → Prop} {px : String → S → Prop} (u : S) {cls text : String} {names : List String} {ik is ic : Nat} (hl : l.stackTraces = false) (ht : ∀ x ∈ c.exceptionTable.toList, False) (cx : Fx p s m args meth c A D cl tys cc nL own ret) (hw : Wd D cl A s H locs (w u)) (hok : ThrOk s args own cls text names ik is ic) (hls : ls.size = nL)
    (d0 : decode cc pc = .ok (.new ik, 3)) (d3 : decode cc (pc + 3) = .ok (.dup, 1)) (d4 : decode cc (pc + 4) = .ok (.ldc is, 2)) (d6 : decode cc (pc + 6) = .ok (.invokespecial ic, 3)) (d9 : decode cc (pc + 9) = .ok (.athrow, 1))
    (hR : names.length + 3 < R.frames ∧ (rest.map fun v => v.category).sum + (13 * (names.length + 1) + 43) ≤ R.locals ∧ cells + 1 ≤ R.cells ∧ slots + 6 ≤ R.slots) (hp : px cls u) (hc : cells + 1 ≤ mc) (hs : slots + 6 ≤ ms) :
    W p l e R s m args below meth c H locs cells slots (QXI D cl w A post px below args s mc ms) (F0 m pc ls rest) := thr_q u hl ht cx hw hok hls d0 d3 d4 d6 d9 hR hp hc hs
theorem thr_v {post : S → Prop} {px : String → S → Prop} (u : S) {cls text : String} {names : List String} {ik is ic : Nat} (hl : l.stackTraces = false) (ht : ∀ x ∈ c.exceptionTable.toList, False) (cx : Fx p s m args meth c A D cl tys cc nL own ret) (hw : Wd D cl A s H locs (w u)) (hok : ThrOk s args own cls text names ik is ic) (hls : ls.size = nL)
    (d0 : decode cc pc = .ok (.new ik, 3)) (d3 : decode cc (pc + 3) = .ok (.dup, 1)) (d4 : decode cc (pc + 4) = .ok (.ldc is, 2)) (d6 : decode cc (pc + 6) = .ok (.invokespecial ic, 3)) (d9 : decode cc (pc + 9) = .ok (.athrow, 1))
    (hR : names.length + 3 < R.frames ∧ (rest.map fun v => v.category).sum + (13 * (names.length + 1) + 43) ≤ R.locals ∧ cells + 1 ≤ R.cells ∧ slots + 6 ≤ R.slots) (hp : px cls u) (hc : cells + 1 ≤ mc) (hs : slots + 6 ≤ ms) :
    W p l e R s m args below meth c H locs cells slots (QXV D cl w A post px below args s mc ms) (F0 m pc ls rest) := thr_q u hl ht cx hw hok hls d0 d3 d4 d6 d9 hR hp hc hs
set_option maxRecDepth 100000 in
theorem ok_ISE (cx : Fx p s m args meth c A D cl tys cc nL "BakeHouse$Brioche" ret) : ThrOk s args "BakeHouse$Brioche" "java/lang/IllegalStateException" "the brioche is fallen" ["java/lang/RuntimeException", "java/lang/Exception"] 32 34 36 :=
  ⟨by decide +kernel, by decide +kernel, by decide +kernel, by decide +kernel, cx.ev.2.2.1.1, thr_hat cx at_ISE (B := [.castable "java/lang/IllegalStateException" "java/lang/IllegalStateException", .declares ⟨"java/lang/RuntimeException", "<init>", "(Ljava/lang/String;)V"⟩, .declares ⟨"java/lang/Exception", "<init>", "(Ljava/lang/String;)V"⟩, .declares ⟨"java/lang/Throwable", "<init>", "(Ljava/lang/String;)V"⟩]) (by decide +kernel) (by decide +kernel), by decide +kernel⟩
set_option maxRecDepth 100000 in
theorem ok_ARI (cx : Fx p s m args meth c A D cl tys cc nL "BakeHouse$Flat" ret) : ThrOk s args "BakeHouse$Flat" "java/lang/ArithmeticException" "a flat bread without a crust" ["java/lang/RuntimeException", "java/lang/Exception"] 39 41 43 :=
  ⟨by decide +kernel, by decide +kernel, by decide +kernel, by decide +kernel, cx.ev.2.2.1.2.2.2.2, thr_hat cx at_ARI (B := [.castable "java/lang/ArithmeticException" "java/lang/ArithmeticException", .declares ⟨"java/lang/RuntimeException", "<init>", "(Ljava/lang/String;)V"⟩, .declares ⟨"java/lang/Exception", "<init>", "(Ljava/lang/String;)V"⟩, .declares ⟨"java/lang/Throwable", "<init>", "(Ljava/lang/String;)V"⟩]) (by decide +kernel) (by decide +kernel), by decide +kernel⟩
set_option maxRecDepth 100000 in
theorem ok_NAS (cx : Fx p s m args meth c A D cl tys cc nL "BakeHouse" ret) : ThrOk s args "BakeHouse" "java/lang/NegativeArraySizeException" "a shelf of less than no places" ["java/lang/RuntimeException", "java/lang/Exception"] 45 47 49 :=
  ⟨by decide +kernel, by decide +kernel, by decide +kernel, by decide +kernel, cx.ev.2.2.1.2.1, thr_hat cx at_NAS (B := [.castable "java/lang/NegativeArraySizeException" "java/lang/NegativeArraySizeException", .declares ⟨"java/lang/RuntimeException", "<init>", "(Ljava/lang/String;)V"⟩, .declares ⟨"java/lang/Exception", "<init>", "(Ljava/lang/String;)V"⟩, .declares ⟨"java/lang/Throwable", "<init>", "(Ljava/lang/String;)V"⟩]) (by decide +kernel) (by decide +kernel), by decide +kernel⟩
set_option maxRecDepth 100000 in
theorem ok_IOB (cx : Fx p s m args meth c A D cl tys cc nL "BakeHouse$Dough" ret) : ThrOk s args "BakeHouse$Dough" "java/lang/ArrayIndexOutOfBoundsException" "the shelf has no such place" ["java/lang/IndexOutOfBoundsException", "java/lang/RuntimeException", "java/lang/Exception"] 69 71 73 :=
  ⟨by decide +kernel, by decide +kernel, by decide +kernel, by decide +kernel, cx.ev.2.2.1.2.2.2.1, thr_hat cx at_IOB (B := [.castable "java/lang/ArrayIndexOutOfBoundsException" "java/lang/ArrayIndexOutOfBoundsException", .declares ⟨"java/lang/IndexOutOfBoundsException", "<init>", "(Ljava/lang/String;)V"⟩, .declares ⟨"java/lang/RuntimeException", "<init>", "(Ljava/lang/String;)V"⟩, .declares ⟨"java/lang/Exception", "<init>", "(Ljava/lang/String;)V"⟩, .declares ⟨"java/lang/Throwable", "<init>", "(Ljava/lang/String;)V"⟩]) (by decide +kernel) (by decide +kernel), by decide +kernel⟩
end Thr8
end
section
abbrev cX0_init : ByteArray := prog_2_method_1_code
abbrev yX0_init : MethodName := ⟨"BakeHouse$Book", "<init>", "()V"⟩
abbrev cX0_begin : ByteArray := prog_2_method_2_code
abbrev yX0_begin : MethodName := ⟨"BakeHouse$Book", "begin", "(II)V"⟩
abbrev cX0_row : ByteArray := prog_2_method_3_code
abbrev yX0_row : MethodName := ⟨"BakeHouse$Book", "row", "(I)I"⟩
abbrev cX1_init : ByteArray := prog_3_method_1_code
abbrev yX1_init : MethodName := ⟨"BakeHouse$Brioche", "<init>", "(LBakeHouse$Book;III)V"⟩
abbrev cX1_doRest : ByteArray := prog_3_method_2_code
abbrev yX1_doRest : MethodName := ⟨"BakeHouse$Brioche", "doRest", "(I)I"⟩
abbrev cX1_doLay : ByteArray := prog_3_method_3_code
abbrev yX1_doLay : MethodName := ⟨"BakeHouse$Brioche", "doLay", "(LBakeHouse$Shelf;I)V"⟩
abbrev cX1_askWorth : ByteArray := prog_3_method_4_code
abbrev yX1_askWorth : MethodName := ⟨"BakeHouse$Brioche", "askWorth", "()I"⟩
abbrev cX2_init : ByteArray := prog_4_method_1_code
abbrev yX2_init : MethodName := ⟨"BakeHouse$Dough", "<init>", "(LBakeHouse$Book;III)V"⟩
abbrev cX2_doRest : ByteArray := prog_4_method_2_code
abbrev yX2_doRest : MethodName := ⟨"BakeHouse$Dough", "doRest", "(I)I"⟩
abbrev cX2_doFold : ByteArray := prog_4_method_3_code
abbrev yX2_doFold : MethodName := ⟨"BakeHouse$Dough", "doFold", "()V"⟩
abbrev cX2_doLay : ByteArray := prog_4_method_4_code
abbrev yX2_doLay : MethodName := ⟨"BakeHouse$Dough", "doLay", "(LBakeHouse$Shelf;I)V"⟩
abbrev cX2_doBake : ByteArray := prog_4_method_5_code
abbrev yX2_doBake : MethodName := ⟨"BakeHouse$Dough", "doBake", "(I)Z"⟩
abbrev cX2_askWorth : ByteArray := prog_4_method_6_code
abbrev yX2_askWorth : MethodName := ⟨"BakeHouse$Dough", "askWorth", "()I"⟩
abbrev cX2_isDoneByCrust : ByteArray := prog_4_method_7_code
abbrev yX2_isDoneByCrust : MethodName := ⟨"BakeHouse$Dough", "isDoneByCrust", "()Z"⟩
abbrev cX3_init : ByteArray := prog_5_method_1_code
abbrev yX3_init : MethodName := ⟨"BakeHouse$Flat", "<init>", "(LBakeHouse$Book;III)V"⟩
abbrev cX3_doFold : ByteArray := prog_5_method_2_code
abbrev yX3_doFold : MethodName := ⟨"BakeHouse$Flat", "doFold", "()V"⟩
abbrev cX3_doLay : ByteArray := prog_5_method_3_code
abbrev yX3_doLay : MethodName := ⟨"BakeHouse$Flat", "doLay", "(LBakeHouse$Shelf;I)V"⟩
abbrev cX3_doBake : ByteArray := prog_5_method_4_code
abbrev yX3_doBake : MethodName := ⟨"BakeHouse$Flat", "doBake", "(I)Z"⟩
abbrev cX3_askWorth : ByteArray := prog_5_method_5_code
abbrev yX3_askWorth : MethodName := ⟨"BakeHouse$Flat", "askWorth", "()I"⟩
abbrev cX4_init : ByteArray := prog_6_method_1_code
abbrev yX4_init : MethodName := ⟨"BakeHouse$Leavened", "<init>", "(LBakeHouse$Book;III)V"⟩
abbrev cX5_init : ByteArray := prog_7_method_1_code
abbrev yX5_init : MethodName := ⟨"BakeHouse$Levain", "<init>", "(LBakeHouse$Book;III)V"⟩
abbrev cX5_doRest : ByteArray := prog_7_method_2_code
abbrev yX5_doRest : MethodName := ⟨"BakeHouse$Levain", "doRest", "(I)I"⟩
abbrev cX5_doLay : ByteArray := prog_7_method_3_code
abbrev yX5_doLay : MethodName := ⟨"BakeHouse$Levain", "doLay", "(LBakeHouse$Shelf;I)V"⟩
abbrev cX5_askWorth : ByteArray := prog_7_method_4_code
abbrev yX5_askWorth : MethodName := ⟨"BakeHouse$Levain", "askWorth", "()I"⟩
abbrev cX6_init : ByteArray := prog_8_method_1_code
abbrev yX6_init : MethodName := ⟨"BakeHouse$Rye", "<init>", "(LBakeHouse$Book;III)V"⟩
abbrev cX6_doRest : ByteArray := prog_8_method_2_code
abbrev yX6_doRest : MethodName := ⟨"BakeHouse$Rye", "doRest", "(I)I"⟩
abbrev cX6_doBake : ByteArray := prog_8_method_3_code
abbrev yX6_doBake : MethodName := ⟨"BakeHouse$Rye", "doBake", "(I)Z"⟩
abbrev cX7_init : ByteArray := prog_9_method_1_code
abbrev yX7_init : MethodName := ⟨"BakeHouse$Shelf", "<init>", "()V"⟩
abbrev cX7_isOut : ByteArray := prog_9_method_2_code
abbrev yX7_isOut : MethodName := ⟨"BakeHouse$Shelf", "isOut", "()Z"⟩
abbrev cX7_bringIn : ByteArray := prog_9_method_3_code
abbrev yX7_bringIn : MethodName := ⟨"BakeHouse$Shelf", "bringIn", "(I)V"⟩
abbrev cX7_takeOut : ByteArray := prog_9_method_4_code
abbrev yX7_takeOut : MethodName := ⟨"BakeHouse$Shelf", "takeOut", "()V"⟩
abbrev cX7_has : ByteArray := prog_9_method_5_code
abbrev yX7_has : MethodName := ⟨"BakeHouse$Shelf", "has", "(I)Z"⟩
abbrev cX7_loafIn : ByteArray := prog_9_method_6_code
abbrev yX7_loafIn : MethodName := ⟨"BakeHouse$Shelf", "loafIn", "(I)I"⟩
abbrev cX7_put : ByteArray := prog_9_method_7_code
abbrev yX7_put : MethodName := ⟨"BakeHouse$Shelf", "put", "(II)V"⟩
abbrev cX7_timesOf : ByteArray := prog_9_method_8_code
abbrev yX7_timesOf : MethodName := ⟨"BakeHouse$Shelf", "timesOf", "(I)I"⟩
abbrev cX8_init : ByteArray := prog_10_method_1_code
abbrev yX8_init : MethodName := ⟨"BakeHouse$Sour", "<init>", "(LBakeHouse$Book;III)V"⟩
abbrev cX8_doRest : ByteArray := prog_10_method_2_code
abbrev yX8_doRest : MethodName := ⟨"BakeHouse$Sour", "doRest", "(I)I"⟩
abbrev cX8_doFold : ByteArray := prog_10_method_3_code
abbrev yX8_doFold : MethodName := ⟨"BakeHouse$Sour", "doFold", "()V"⟩
abbrev cX8_doBake : ByteArray := prog_10_method_4_code
abbrev yX8_doBake : MethodName := ⟨"BakeHouse$Sour", "doBake", "(I)Z"⟩
abbrev cX8_askWorth : ByteArray := prog_10_method_5_code
abbrev yX8_askWorth : MethodName := ⟨"BakeHouse$Sour", "askWorth", "()I"⟩
abbrev cX9_init : ByteArray := prog_11_method_1_code
abbrev yX9_init : MethodName := ⟨"BakeHouse$Sweet", "<init>", "(LBakeHouse$Book;III)V"⟩
abbrev cX9_doFold : ByteArray := prog_11_method_2_code
abbrev yX9_doFold : MethodName := ⟨"BakeHouse$Sweet", "doFold", "()V"⟩
abbrev cX9_doBake : ByteArray := prog_11_method_3_code
abbrev yX9_doBake : MethodName := ⟨"BakeHouse$Sweet", "doBake", "(I)Z"⟩
abbrev cX10_init : ByteArray := prog_1_method_1_code
abbrev yX10_init : MethodName := ⟨"BakeHouse", "<init>", "()V"⟩
abbrev cX10_loaf : ByteArray := prog_1_method_2_code
abbrev yX10_loaf : MethodName := ⟨"BakeHouse", "loaf", "(II)I"⟩
abbrev cX10_shelf : ByteArray := prog_1_method_3_code
abbrev yX10_shelf : MethodName := ⟨"BakeHouse", "shelf", "(II)I"⟩
abbrev cX10_out : ByteArray := prog_1_method_4_code
abbrev yX10_out : MethodName := ⟨"BakeHouse", "out", "(I)I"⟩
abbrev cX10_rest : ByteArray := prog_1_method_5_code
abbrev yX10_rest : MethodName := ⟨"BakeHouse", "rest", "(II)I"⟩
abbrev cX10_fold : ByteArray := prog_1_method_6_code
abbrev yX10_fold : MethodName := ⟨"BakeHouse", "fold", "(I)I"⟩
abbrev cX10_lay : ByteArray := prog_1_method_7_code
abbrev yX10_lay : MethodName := ⟨"BakeHouse", "lay", "(III)I"⟩
abbrev cX10_bake : ByteArray := prog_1_method_8_code
abbrev yX10_bake : MethodName := ⟨"BakeHouse", "bake", "(II)I"⟩
abbrev cX10_worth : ByteArray := prog_1_method_9_code
abbrev yX10_worth : MethodName := ⟨"BakeHouse", "worth", "(I)I"⟩
abbrev cX10_cost : ByteArray := prog_1_method_10_code
abbrev yX10_cost : MethodName := ⟨"BakeHouse", "cost", "(I)I"⟩
abbrev cX10_change : ByteArray := prog_1_method_11_code
abbrev yX10_change : MethodName := ⟨"BakeHouse", "change", "(II)I"⟩
abbrev cX10_fire : ByteArray := prog_1_method_12_code
abbrev yX10_fire : MethodName := ⟨"BakeHouse", "fire", "(I)I"⟩
abbrev cX10_night : ByteArray := prog_1_method_13_code
abbrev yX10_night : MethodName := ⟨"BakeHouse", "night", "(I)I"⟩
abbrev cX10_at : ByteArray := prog_1_method_14_code
abbrev yX10_at : MethodName := ⟨"BakeHouse", "at", "(II)I"⟩
abbrev cX10_places : ByteArray := prog_1_method_15_code
abbrev yX10_places : MethodName := ⟨"BakeHouse", "places", "(I)I"⟩
abbrev cX10_tell : ByteArray := prog_1_method_16_code
abbrev yX10_tell : MethodName := ⟨"BakeHouse", "tell", "(II)I"⟩
abbrev cX10_book : ByteArray := prog_1_method_17_code
abbrev yX10_book : MethodName := ⟨"BakeHouse", "book", "(I)I"⟩
abbrev cX10_count : ByteArray := prog_1_method_18_code
abbrev yX10_count : MethodName := ⟨"BakeHouse", "count", "(I)I"⟩
abbrev cX10_within : ByteArray := prog_1_method_19_code
abbrev yX10_within : MethodName := ⟨"BakeHouse", "within", "(III)Z"⟩
abbrev cX10_findLoaf : ByteArray := prog_1_method_20_code
abbrev yX10_findLoaf : MethodName := ⟨"BakeHouse", "findLoaf", "(I)LBakeHouse$Dough;"⟩
abbrev cX10_findShelf : ByteArray := prog_1_method_21_code
abbrev yX10_findShelf : MethodName := ⟨"BakeHouse", "findShelf", "(I)LBakeHouse$Shelf;"⟩
abbrev cX10_knead : ByteArray := prog_1_method_22_code
abbrev yX10_knead : MethodName := ⟨"BakeHouse", "knead", "(III)LBakeHouse$Dough;"⟩
abbrev cX10_placesOfLoaf : ByteArray := prog_1_method_23_code
abbrev yX10_placesOfLoaf : MethodName := ⟨"BakeHouse", "placesOfLoaf", "(I)I"⟩
abbrev cX10_bakeShelf : ByteArray := prog_1_method_24_code
abbrev yX10_bakeShelf : MethodName := ⟨"BakeHouse", "bakeShelf", "(LBakeHouse$Shelf;I)I"⟩
abbrev cX10_fallsAtRest : ByteArray := prog_1_method_25_code
abbrev yX10_fallsAtRest : MethodName := ⟨"BakeHouse", "fallsAtRest", "(LBakeHouse$Dough;I)Z"⟩
abbrev cX10_isSold : ByteArray := prog_1_method_26_code
abbrev yX10_isSold : MethodName := ⟨"BakeHouse", "isSold", "(LBakeHouse$Dough;)Z"⟩
abbrev cX10_priceOf : ByteArray := prog_1_method_27_code
abbrev yX10_priceOf : MethodName := ⟨"BakeHouse", "priceOf", "(LBakeHouse$Dough;)I"⟩
abbrev cX11_init : ByteArray := prog_13_method_1_code
abbrev yX11_init : MethodName := ⟨"BakeHouseModel", "<init>", "()V"⟩
abbrev cX11_thrown : ByteArray := prog_13_method_2_code
abbrev yX11_thrown : MethodName := ⟨"BakeHouseModel", "thrown", "()I"⟩
abbrev cX11_within : ByteArray := prog_13_method_3_code
abbrev yX11_within : MethodName := ⟨"BakeHouseModel", "within", "(III)Z"⟩
abbrev cX11_isLoaf : ByteArray := prog_13_method_4_code
abbrev yX11_isLoaf : MethodName := ⟨"BakeHouseModel", "isLoaf", "(I)Z"⟩
abbrev cX11_isShelf : ByteArray := prog_13_method_5_code
abbrev yX11_isShelf : MethodName := ⟨"BakeHouseModel", "isShelf", "(I)Z"⟩
abbrev cX11_begin : ByteArray := prog_13_method_6_code
abbrev yX11_begin : MethodName := ⟨"BakeHouseModel", "begin", "(II)V"⟩
abbrev cX11_plainRest : ByteArray := prog_13_method_7_code
abbrev yX11_plainRest : MethodName := ⟨"BakeHouseModel", "plainRest", "(II)V"⟩
abbrev cX11_ryeRest : ByteArray := prog_13_method_8_code
abbrev yX11_ryeRest : MethodName := ⟨"BakeHouseModel", "ryeRest", "(II)V"⟩
abbrev cX11_sourRest : ByteArray := prog_13_method_9_code
abbrev yX11_sourRest : MethodName := ⟨"BakeHouseModel", "sourRest", "(II)V"⟩
abbrev cX11_rests : ByteArray := prog_13_method_10_code
abbrev yX11_rests : MethodName := ⟨"BakeHouseModel", "rests", "(II)I"⟩
abbrev cX11_plainFold : ByteArray := prog_13_method_11_code
abbrev yX11_plainFold : MethodName := ⟨"BakeHouseModel", "plainFold", "(I)V"⟩
abbrev cX11_folds : ByteArray := prog_13_method_12_code
abbrev yX11_folds : MethodName := ⟨"BakeHouseModel", "folds", "(I)V"⟩
abbrev cX11_plainLay : ByteArray := prog_13_method_13_code
abbrev yX11_plainLay : MethodName := ⟨"BakeHouseModel", "plainLay", "(III)I"⟩
abbrev cX11_lays : ByteArray := prog_13_method_14_code
abbrev yX11_lays : MethodName := ⟨"BakeHouseModel", "lays", "(III)I"⟩
abbrev cX11_plainBake : ByteArray := prog_13_method_15_code
abbrev yX11_plainBake : MethodName := ⟨"BakeHouseModel", "plainBake", "(II)Z"⟩
abbrev cX11_bakes : ByteArray := prog_13_method_16_code
abbrev yX11_bakes : MethodName := ⟨"BakeHouseModel", "bakes", "(II)Z"⟩
abbrev cX11_plainWorth : ByteArray := prog_13_method_17_code
abbrev yX11_plainWorth : MethodName := ⟨"BakeHouseModel", "plainWorth", "(I)I"⟩
abbrev cX11_worthOf : ByteArray := prog_13_method_18_code
abbrev yX11_worthOf : MethodName := ⟨"BakeHouseModel", "worthOf", "(I)I"⟩
abbrev cX11_isSold : ByteArray := prog_13_method_19_code
abbrev yX11_isSold : MethodName := ⟨"BakeHouseModel", "isSold", "(I)Z"⟩
abbrev cX11_costOf : ByteArray := prog_13_method_20_code
abbrev yX11_costOf : MethodName := ⟨"BakeHouseModel", "costOf", "(I)I"⟩
abbrev cX11_loaf : ByteArray := prog_13_method_21_code
abbrev yX11_loaf : MethodName := ⟨"BakeHouseModel", "loaf", "(II)I"⟩
abbrev cX11_shelf : ByteArray := prog_13_method_22_code
abbrev yX11_shelf : MethodName := ⟨"BakeHouseModel", "shelf", "(II)I"⟩
abbrev cX11_out : ByteArray := prog_13_method_23_code
abbrev yX11_out : MethodName := ⟨"BakeHouseModel", "out", "(I)I"⟩
abbrev cX11_rest : ByteArray := prog_13_method_24_code
abbrev yX11_rest : MethodName := ⟨"BakeHouseModel", "rest", "(II)I"⟩
abbrev cX11_fold : ByteArray := prog_13_method_25_code
abbrev yX11_fold : MethodName := ⟨"BakeHouseModel", "fold", "(I)I"⟩
abbrev cX11_lay : ByteArray := prog_13_method_26_code
abbrev yX11_lay : MethodName := ⟨"BakeHouseModel", "lay", "(III)I"⟩
abbrev cX11_bake : ByteArray := prog_13_method_27_code
abbrev yX11_bake : MethodName := ⟨"BakeHouseModel", "bake", "(II)I"⟩
abbrev cX11_worth : ByteArray := prog_13_method_28_code
abbrev yX11_worth : MethodName := ⟨"BakeHouseModel", "worth", "(I)I"⟩
abbrev cX11_cost : ByteArray := prog_13_method_29_code
abbrev yX11_cost : MethodName := ⟨"BakeHouseModel", "cost", "(I)I"⟩
abbrev cX11_change : ByteArray := prog_13_method_30_code
abbrev yX11_change : MethodName := ⟨"BakeHouseModel", "change", "(II)I"⟩
abbrev cX11_fire : ByteArray := prog_13_method_31_code
abbrev yX11_fire : MethodName := ⟨"BakeHouseModel", "fire", "(I)I"⟩
abbrev cX11_night : ByteArray := prog_13_method_32_code
abbrev yX11_night : MethodName := ⟨"BakeHouseModel", "night", "(I)I"⟩
abbrev cX11_at : ByteArray := prog_13_method_33_code
abbrev yX11_at : MethodName := ⟨"BakeHouseModel", "at", "(II)I"⟩
abbrev cX11_places : ByteArray := prog_13_method_34_code
abbrev yX11_places : MethodName := ⟨"BakeHouseModel", "places", "(I)I"⟩
abbrev cX11_tell : ByteArray := prog_13_method_35_code
abbrev yX11_tell : MethodName := ⟨"BakeHouseModel", "tell", "(II)I"⟩
abbrev cX11_book : ByteArray := prog_13_method_36_code
abbrev yX11_book : MethodName := ⟨"BakeHouseModel", "book", "(I)I"⟩
abbrev cX11_count : ByteArray := prog_13_method_37_code
abbrev yX11_count : MethodName := ⟨"BakeHouseModel", "count", "(I)I"⟩
abbrev cL_shelf : ByteArray := method_3_code
abbrev yL_shelf : MethodName := ⟨"BakeHouseLaw", "shelf", "(LBakeHouse;II[J)I"⟩
abbrev cL_rest : ByteArray := method_4_code
abbrev yL_rest : MethodName := ⟨"BakeHouseLaw", "rest", "(LBakeHouse;II[J)I"⟩
abbrev cL_lay : ByteArray := method_5_code
abbrev yL_lay : MethodName := ⟨"BakeHouseLaw", "lay", "(LBakeHouse;III[J)I"⟩
abbrev cL_worth : ByteArray := method_6_code
abbrev yL_worth : MethodName := ⟨"BakeHouseLaw", "worth", "(LBakeHouse;I[J)I"⟩
abbrev cL_cost : ByteArray := method_7_code
abbrev yL_cost : MethodName := ⟨"BakeHouseLaw", "cost", "(LBakeHouse;I[J)I"⟩
abbrev cL_change : ByteArray := method_8_code
abbrev yL_change : MethodName := ⟨"BakeHouseLaw", "change", "(LBakeHouse;II[J)I"⟩
abbrev cL_law : ByteArray := code
abbrev yL_law : MethodName := ⟨"BakeHouseLaw", "law", "([I)Z"⟩
end
section
theorem dX0_init_0 : decode cX0_init 0 = .ok (.aload_n 0, 1) := by decide +kernel
theorem dX0_init_1 : decode cX0_init 1 = .ok (.invokespecial 3, 3) := by decide +kernel
theorem dX0_init_4 : decode cX0_init 4 = .ok (.aload_n 0, 1) := by decide +kernel
theorem dX0_init_5 : decode cX0_init 5 = .ok (.bipush 100, 2) := by decide +kernel
theorem dX0_init_7 : decode cX0_init 7 = .ok (.newarray .int, 2) := by decide +kernel
theorem dX0_init_9 : decode cX0_init 9 = .ok (.putfield 9, 3) := by decide +kernel
theorem dX0_init_12 : decode cX0_init 12 = .ok (.aload_n 0, 1) := by decide +kernel
theorem dX0_init_13 : decode cX0_init 13 = .ok (.iconst 0, 1) := by decide +kernel
theorem dX0_init_14 : decode cX0_init 14 = .ok (.putfield 15, 3) := by decide +kernel
theorem dX0_init_17 : decode cX0_init 17 = .ok (.aload_n 0, 1) := by decide +kernel
theorem dX0_init_18 : decode cX0_init 18 = .ok (.iconst 0, 1) := by decide +kernel
theorem dX0_init_19 : decode cX0_init 19 = .ok (.putfield 19, 3) := by decide +kernel
theorem dX0_init_22 : decode cX0_init 22 = .ok (.aload_n 0, 1) := by decide +kernel
theorem dX0_init_23 : decode cX0_init 23 = .ok (.iconst 0, 1) := by decide +kernel
theorem dX0_init_24 : decode cX0_init 24 = .ok (.putfield 22, 3) := by decide +kernel
theorem dX0_init_27 : decode cX0_init 27 = .ok (.aload_n 0, 1) := by decide +kernel
theorem dX0_init_28 : decode cX0_init 28 = .ok (.iconst 0, 1) := by decide +kernel
theorem dX0_init_29 : decode cX0_init 29 = .ok (.putfield 25, 3) := by decide +kernel
theorem dX0_init_32 : decode cX0_init 32 = .ok (.aload_n 0, 1) := by decide +kernel
theorem dX0_init_33 : decode cX0_init 33 = .ok (.iconst 0, 1) := by decide +kernel
theorem dX0_init_34 : decode cX0_init 34 = .ok (.putfield 28, 3) := by decide +kernel
theorem dX0_init_37 : decode cX0_init 37 = .ok (.aload_n 0, 1) := by decide +kernel
theorem dX0_init_38 : decode cX0_init 38 = .ok (.iconst 0, 1) := by decide +kernel
theorem dX0_init_39 : decode cX0_init 39 = .ok (.putfield 31, 3) := by decide +kernel
theorem dX0_init_42 : decode cX0_init 42 = .ok (.return_, 1) := by decide +kernel
theorem dX0_begin_0 : decode cX0_begin 0 = .ok (.aload_n 0, 1) := by decide +kernel
theorem dX0_begin_1 : decode cX0_begin 1 = .ok (.getfield 15, 3) := by decide +kernel
theorem dX0_begin_4 : decode cX0_begin 4 = .ok (.ifCond .lt 12, 3) := by decide +kernel
theorem dX0_begin_7 : decode cX0_begin 7 = .ok (.aload_n 0, 1) := by decide +kernel
theorem dX0_begin_8 : decode cX0_begin 8 = .ok (.getfield 15, 3) := by decide +kernel
theorem dX0_begin_11 : decode cX0_begin 11 = .ok (.bipush 100, 2) := by decide +kernel
theorem dX0_begin_13 : decode cX0_begin 13 = .ok (.if_icmp .lt 8, 3) := by decide +kernel
theorem dX0_begin_16 : decode cX0_begin 16 = .ok (.aload_n 0, 1) := by decide +kernel
theorem dX0_begin_17 : decode cX0_begin 17 = .ok (.iconst 0, 1) := by decide +kernel
theorem dX0_begin_18 : decode cX0_begin 18 = .ok (.putfield 15, 3) := by decide +kernel
theorem dX0_begin_21 : decode cX0_begin 21 = .ok (.aload_n 0, 1) := by decide +kernel
theorem dX0_begin_22 : decode cX0_begin 22 = .ok (.getfield 9, 3) := by decide +kernel
theorem dX0_begin_25 : decode cX0_begin 25 = .ok (.aload_n 0, 1) := by decide +kernel
theorem dX0_begin_26 : decode cX0_begin 26 = .ok (.getfield 15, 3) := by decide +kernel
theorem dX0_begin_29 : decode cX0_begin 29 = .ok (.bipush 10, 2) := by decide +kernel
theorem dX0_begin_31 : decode cX0_begin 31 = .ok (.iload_n 1, 1) := by decide +kernel
theorem dX0_begin_32 : decode cX0_begin 32 = .ok (.imul, 1) := by decide +kernel
theorem dX0_begin_33 : decode cX0_begin 33 = .ok (.iload_n 2, 1) := by decide +kernel
theorem dX0_begin_34 : decode cX0_begin 34 = .ok (.iadd, 1) := by decide +kernel
theorem dX0_begin_35 : decode cX0_begin 35 = .ok (.iastore, 1) := by decide +kernel
theorem dX0_begin_36 : decode cX0_begin 36 = .ok (.aload_n 0, 1) := by decide +kernel
theorem dX0_begin_37 : decode cX0_begin 37 = .ok (.dup, 1) := by decide +kernel
theorem dX0_begin_38 : decode cX0_begin 38 = .ok (.getfield 15, 3) := by decide +kernel
theorem dX0_begin_41 : decode cX0_begin 41 = .ok (.iconst 1, 1) := by decide +kernel
theorem dX0_begin_42 : decode cX0_begin 42 = .ok (.iadd, 1) := by decide +kernel
theorem dX0_begin_43 : decode cX0_begin 43 = .ok (.putfield 15, 3) := by decide +kernel
theorem dX0_begin_46 : decode cX0_begin 46 = .ok (.aload_n 0, 1) := by decide +kernel
theorem dX0_begin_47 : decode cX0_begin 47 = .ok (.getfield 19, 3) := by decide +kernel
theorem dX0_begin_50 : decode cX0_begin 50 = .ok (.bipush 100, 2) := by decide +kernel
theorem dX0_begin_52 : decode cX0_begin 52 = .ok (.if_icmp .ge 13, 3) := by decide +kernel
theorem dX0_begin_55 : decode cX0_begin 55 = .ok (.aload_n 0, 1) := by decide +kernel
theorem dX0_begin_56 : decode cX0_begin 56 = .ok (.dup, 1) := by decide +kernel
theorem dX0_begin_57 : decode cX0_begin 57 = .ok (.getfield 19, 3) := by decide +kernel
theorem dX0_begin_60 : decode cX0_begin 60 = .ok (.iconst 1, 1) := by decide +kernel
theorem dX0_begin_61 : decode cX0_begin 61 = .ok (.iadd, 1) := by decide +kernel
theorem dX0_begin_62 : decode cX0_begin 62 = .ok (.putfield 19, 3) := by decide +kernel
theorem dX0_begin_65 : decode cX0_begin 65 = .ok (.aload_n 0, 1) := by decide +kernel
theorem dX0_begin_66 : decode cX0_begin 66 = .ok (.dup, 1) := by decide +kernel
theorem dX0_begin_67 : decode cX0_begin 67 = .ok (.getfield 22, 3) := by decide +kernel
theorem dX0_begin_70 : decode cX0_begin 70 = .ok (.iconst 1, 1) := by decide +kernel
theorem dX0_begin_71 : decode cX0_begin 71 = .ok (.iadd, 1) := by decide +kernel
theorem dX0_begin_72 : decode cX0_begin 72 = .ok (.putfield 22, 3) := by decide +kernel
theorem dX0_begin_75 : decode cX0_begin 75 = .ok (.return_, 1) := by decide +kernel
theorem dX0_row_0 : decode cX0_row 0 = .ok (.iload_n 1, 1) := by decide +kernel
theorem dX0_row_1 : decode cX0_row 1 = .ok (.ifCond .lt 11, 3) := by decide +kernel
theorem dX0_row_4 : decode cX0_row 4 = .ok (.iload_n 1, 1) := by decide +kernel
theorem dX0_row_5 : decode cX0_row 5 = .ok (.aload_n 0, 1) := by decide +kernel
theorem dX0_row_6 : decode cX0_row 6 = .ok (.getfield 19, 3) := by decide +kernel
theorem dX0_row_9 : decode cX0_row 9 = .ok (.if_icmp .lt 5, 3) := by decide +kernel
theorem dX0_row_12 : decode cX0_row 12 = .ok (.iconst (-1), 1) := by decide +kernel
theorem dX0_row_13 : decode cX0_row 13 = .ok (.ireturn, 1) := by decide +kernel
theorem dX0_row_14 : decode cX0_row 14 = .ok (.aload_n 0, 1) := by decide +kernel
theorem dX0_row_15 : decode cX0_row 15 = .ok (.getfield 15, 3) := by decide +kernel
theorem dX0_row_18 : decode cX0_row 18 = .ok (.iconst 1, 1) := by decide +kernel
theorem dX0_row_19 : decode cX0_row 19 = .ok (.isub, 1) := by decide +kernel
theorem dX0_row_20 : decode cX0_row 20 = .ok (.iload_n 1, 1) := by decide +kernel
theorem dX0_row_21 : decode cX0_row 21 = .ok (.isub, 1) := by decide +kernel
theorem dX0_row_22 : decode cX0_row 22 = .ok (.istore_n 2, 1) := by decide +kernel
theorem dX0_row_23 : decode cX0_row 23 = .ok (.iload_n 2, 1) := by decide +kernel
theorem dX0_row_24 : decode cX0_row 24 = .ok (.ifCond .ge 6, 3) := by decide +kernel
theorem dX0_row_27 : decode cX0_row 27 = .ok (.iinc 2 100, 3) := by decide +kernel
theorem dX0_row_30 : decode cX0_row 30 = .ok (.iload_n 2, 1) := by decide +kernel
theorem dX0_row_31 : decode cX0_row 31 = .ok (.iconst 0, 1) := by decide +kernel
theorem dX0_row_32 : decode cX0_row 32 = .ok (.bipush 99, 2) := by decide +kernel
theorem dX0_row_34 : decode cX0_row 34 = .ok (.invokestatic 34, 3) := by decide +kernel
theorem dX0_row_37 : decode cX0_row 37 = .ok (.ifCond .eq 12, 3) := by decide +kernel
theorem dX0_row_40 : decode cX0_row 40 = .ok (.aload_n 0, 1) := by decide +kernel
theorem dX0_row_41 : decode cX0_row 41 = .ok (.getfield 9, 3) := by decide +kernel
theorem dX0_row_44 : decode cX0_row 44 = .ok (.iload_n 2, 1) := by decide +kernel
theorem dX0_row_45 : decode cX0_row 45 = .ok (.iaload, 1) := by decide +kernel
theorem dX0_row_46 : decode cX0_row 46 = .ok (.goto 4, 3) := by decide +kernel
theorem dX0_row_49 : decode cX0_row 49 = .ok (.iconst (-1), 1) := by decide +kernel
theorem dX0_row_50 : decode cX0_row 50 = .ok (.ireturn, 1) := by decide +kernel
theorem dX1_init_0 : decode cX1_init 0 = .ok (.aload_n 0, 1) := by decide +kernel
theorem dX1_init_1 : decode cX1_init 1 = .ok (.aload_n 1, 1) := by decide +kernel
theorem dX1_init_2 : decode cX1_init 2 = .ok (.iload_n 2, 1) := by decide +kernel
theorem dX1_init_3 : decode cX1_init 3 = .ok (.iload_n 3, 1) := by decide +kernel
theorem dX1_init_4 : decode cX1_init 4 = .ok (.iload 4, 2) := by decide +kernel
theorem dX1_init_6 : decode cX1_init 6 = .ok (.invokespecial 3, 3) := by decide +kernel
theorem dX1_init_9 : decode cX1_init 9 = .ok (.return_, 1) := by decide +kernel
theorem dX1_doRest_0 : decode cX1_doRest 0 = .ok (.aload_n 0, 1) := by decide +kernel
theorem dX1_doRest_1 : decode cX1_doRest 1 = .ok (.getfield 9, 3) := by decide +kernel
theorem dX1_doRest_4 : decode cX1_doRest 4 = .ok (.iconst 0, 1) := by decide +kernel
theorem dX1_doRest_5 : decode cX1_doRest 5 = .ok (.iconst 5, 1) := by decide +kernel
theorem dX1_doRest_6 : decode cX1_doRest 6 = .ok (.invokevirtual 15, 3) := by decide +kernel
theorem dX1_doRest_9 : decode cX1_doRest 9 = .ok (.aload_n 0, 1) := by decide +kernel
theorem dX1_doRest_10 : decode cX1_doRest 10 = .ok (.iload_n 1, 1) := by decide +kernel
theorem dX1_doRest_11 : decode cX1_doRest 11 = .ok (.invokespecial 21, 3) := by decide +kernel
theorem dX1_doRest_14 : decode cX1_doRest 14 = .ok (.istore_n 2, 1) := by decide +kernel
theorem dX1_doRest_15 : decode cX1_doRest 15 = .ok (.aload_n 0, 1) := by decide +kernel
theorem dX1_doRest_16 : decode cX1_doRest 16 = .ok (.getfield 25, 3) := by decide +kernel
theorem dX1_doRest_19 : decode cX1_doRest 19 = .ok (.bipush 90, 2) := by decide +kernel
theorem dX1_doRest_21 : decode cX1_doRest 21 = .ok (.if_icmp .lt 32, 3) := by decide +kernel
theorem dX1_doRest_24 : decode cX1_doRest 24 = .ok (.aload_n 0, 1) := by decide +kernel
theorem dX1_doRest_25 : decode cX1_doRest 25 = .ok (.bipush 10, 2) := by decide +kernel
theorem dX1_doRest_27 : decode cX1_doRest 27 = .ok (.putfield 25, 3) := by decide +kernel
theorem dX1_doRest_30 : decode cX1_doRest 30 = .ok (.aload_n 0, 1) := by decide +kernel
theorem dX1_doRest_31 : decode cX1_doRest 31 = .ok (.getfield 9, 3) := by decide +kernel
theorem dX1_doRest_34 : decode cX1_doRest 34 = .ok (.dup, 1) := by decide +kernel
theorem dX1_doRest_35 : decode cX1_doRest 35 = .ok (.getfield 29, 3) := by decide +kernel
theorem dX1_doRest_38 : decode cX1_doRest 38 = .ok (.iconst 1, 1) := by decide +kernel
theorem dX1_doRest_39 : decode cX1_doRest 39 = .ok (.iadd, 1) := by decide +kernel
theorem dX1_doRest_40 : decode cX1_doRest 40 = .ok (.putfield 29, 3) := by decide +kernel
theorem dX1_doRest_43 : decode cX1_doRest 43 = .ok (.new 32, 3) := by decide +kernel
theorem dX1_doRest_46 : decode cX1_doRest 46 = .ok (.dup, 1) := by decide +kernel
theorem dX1_doRest_47 : decode cX1_doRest 47 = .ok (.ldc 34, 2) := by decide +kernel
theorem dX1_doRest_49 : decode cX1_doRest 49 = .ok (.invokespecial 36, 3) := by decide +kernel
theorem dX1_doRest_52 : decode cX1_doRest 52 = .ok (.athrow, 1) := by decide +kernel
theorem dX1_doRest_53 : decode cX1_doRest 53 = .ok (.iload_n 2, 1) := by decide +kernel
theorem dX1_doRest_54 : decode cX1_doRest 54 = .ok (.ireturn, 1) := by decide +kernel
theorem dX1_doLay_0 : decode cX1_doLay 0 = .ok (.aload_n 0, 1) := by decide +kernel
theorem dX1_doLay_1 : decode cX1_doLay 1 = .ok (.getfield 9, 3) := by decide +kernel
theorem dX1_doLay_4 : decode cX1_doLay 4 = .ok (.iconst 2, 1) := by decide +kernel
theorem dX1_doLay_5 : decode cX1_doLay 5 = .ok (.iconst 5, 1) := by decide +kernel
theorem dX1_doLay_6 : decode cX1_doLay 6 = .ok (.invokevirtual 15, 3) := by decide +kernel
theorem dX1_doLay_9 : decode cX1_doLay 9 = .ok (.aload_n 0, 1) := by decide +kernel
theorem dX1_doLay_10 : decode cX1_doLay 10 = .ok (.aload_n 1, 1) := by decide +kernel
theorem dX1_doLay_11 : decode cX1_doLay 11 = .ok (.iload_n 2, 1) := by decide +kernel
theorem dX1_doLay_12 : decode cX1_doLay 12 = .ok (.invokespecial 39, 3) := by decide +kernel
theorem dX1_doLay_15 : decode cX1_doLay 15 = .ok (.aload_n 0, 1) := by decide +kernel
theorem dX1_doLay_16 : decode cX1_doLay 16 = .ok (.aload_n 1, 1) := by decide +kernel
theorem dX1_doLay_17 : decode cX1_doLay 17 = .ok (.iload_n 2, 1) := by decide +kernel
theorem dX1_doLay_18 : decode cX1_doLay 18 = .ok (.iconst 1, 1) := by decide +kernel
theorem dX1_doLay_19 : decode cX1_doLay 19 = .ok (.iadd, 1) := by decide +kernel
theorem dX1_doLay_20 : decode cX1_doLay 20 = .ok (.invokespecial 39, 3) := by decide +kernel
theorem dX1_doLay_23 : decode cX1_doLay 23 = .ok (.return_, 1) := by decide +kernel
theorem dX1_askWorth_0 : decode cX1_askWorth 0 = .ok (.aload_n 0, 1) := by decide +kernel
theorem dX1_askWorth_1 : decode cX1_askWorth 1 = .ok (.getfield 9, 3) := by decide +kernel
theorem dX1_askWorth_4 : decode cX1_askWorth 4 = .ok (.iconst 4, 1) := by decide +kernel
theorem dX1_askWorth_5 : decode cX1_askWorth 5 = .ok (.iconst 5, 1) := by decide +kernel
theorem dX1_askWorth_6 : decode cX1_askWorth 6 = .ok (.invokevirtual 15, 3) := by decide +kernel
theorem dX1_askWorth_9 : decode cX1_askWorth 9 = .ok (.iconst 2, 1) := by decide +kernel
theorem dX1_askWorth_10 : decode cX1_askWorth 10 = .ok (.aload_n 0, 1) := by decide +kernel
theorem dX1_askWorth_11 : decode cX1_askWorth 11 = .ok (.invokespecial 43, 3) := by decide +kernel
theorem dX1_askWorth_14 : decode cX1_askWorth 14 = .ok (.imul, 1) := by decide +kernel
theorem dX1_askWorth_15 : decode cX1_askWorth 15 = .ok (.ireturn, 1) := by decide +kernel
theorem dX2_init_0 : decode cX2_init 0 = .ok (.aload_n 0, 1) := by decide +kernel
theorem dX2_init_1 : decode cX2_init 1 = .ok (.invokespecial 3, 3) := by decide +kernel
theorem dX2_init_4 : decode cX2_init 4 = .ok (.aload_n 0, 1) := by decide +kernel
theorem dX2_init_5 : decode cX2_init 5 = .ok (.iconst 0, 1) := by decide +kernel
theorem dX2_init_6 : decode cX2_init 6 = .ok (.putfield 9, 3) := by decide +kernel
theorem dX2_init_9 : decode cX2_init 9 = .ok (.aload_n 0, 1) := by decide +kernel
theorem dX2_init_10 : decode cX2_init 10 = .ok (.iconst 0, 1) := by decide +kernel
theorem dX2_init_11 : decode cX2_init 11 = .ok (.putfield 15, 3) := by decide +kernel
theorem dX2_init_14 : decode cX2_init 14 = .ok (.aload_n 0, 1) := by decide +kernel
theorem dX2_init_15 : decode cX2_init 15 = .ok (.iconst 0, 1) := by decide +kernel
theorem dX2_init_16 : decode cX2_init 16 = .ok (.putfield 18, 3) := by decide +kernel
theorem dX2_init_19 : decode cX2_init 19 = .ok (.aload_n 0, 1) := by decide +kernel
theorem dX2_init_20 : decode cX2_init 20 = .ok (.iconst 0, 1) := by decide +kernel
theorem dX2_init_21 : decode cX2_init 21 = .ok (.putfield 21, 3) := by decide +kernel
theorem dX2_init_24 : decode cX2_init 24 = .ok (.aload_n 0, 1) := by decide +kernel
theorem dX2_init_25 : decode cX2_init 25 = .ok (.aload_n 1, 1) := by decide +kernel
theorem dX2_init_26 : decode cX2_init 26 = .ok (.putfield 24, 3) := by decide +kernel
theorem dX2_init_29 : decode cX2_init 29 = .ok (.aload_n 0, 1) := by decide +kernel
theorem dX2_init_30 : decode cX2_init 30 = .ok (.iload_n 2, 1) := by decide +kernel
theorem dX2_init_31 : decode cX2_init 31 = .ok (.putfield 28, 3) := by decide +kernel
theorem dX2_init_34 : decode cX2_init 34 = .ok (.aload_n 0, 1) := by decide +kernel
theorem dX2_init_35 : decode cX2_init 35 = .ok (.iload_n 3, 1) := by decide +kernel
theorem dX2_init_36 : decode cX2_init 36 = .ok (.putfield 31, 3) := by decide +kernel
theorem dX2_init_39 : decode cX2_init 39 = .ok (.aload_n 0, 1) := by decide +kernel
theorem dX2_init_40 : decode cX2_init 40 = .ok (.iload 4, 2) := by decide +kernel
theorem dX2_init_42 : decode cX2_init 42 = .ok (.putfield 34, 3) := by decide +kernel
theorem dX2_init_45 : decode cX2_init 45 = .ok (.return_, 1) := by decide +kernel
theorem dX2_doRest_0 : decode cX2_doRest 0 = .ok (.aload_n 0, 1) := by decide +kernel
theorem dX2_doRest_1 : decode cX2_doRest 1 = .ok (.getfield 24, 3) := by decide +kernel
theorem dX2_doRest_4 : decode cX2_doRest 4 = .ok (.iconst 0, 1) := by decide +kernel
theorem dX2_doRest_5 : decode cX2_doRest 5 = .ok (.iconst 0, 1) := by decide +kernel
theorem dX2_doRest_6 : decode cX2_doRest 6 = .ok (.invokevirtual 37, 3) := by decide +kernel
theorem dX2_doRest_9 : decode cX2_doRest 9 = .ok (.aload_n 0, 1) := by decide +kernel
theorem dX2_doRest_10 : decode cX2_doRest 10 = .ok (.aload_n 0, 1) := by decide +kernel
theorem dX2_doRest_11 : decode cX2_doRest 11 = .ok (.getfield 9, 3) := by decide +kernel
theorem dX2_doRest_14 : decode cX2_doRest 14 = .ok (.iload_n 1, 1) := by decide +kernel
theorem dX2_doRest_15 : decode cX2_doRest 15 = .ok (.bipush 6, 2) := by decide +kernel
theorem dX2_doRest_17 : decode cX2_doRest 17 = .ok (.idiv, 1) := by decide +kernel
theorem dX2_doRest_18 : decode cX2_doRest 18 = .ok (.iadd, 1) := by decide +kernel
theorem dX2_doRest_19 : decode cX2_doRest 19 = .ok (.bipush 100, 2) := by decide +kernel
theorem dX2_doRest_21 : decode cX2_doRest 21 = .ok (.invokestatic 43, 3) := by decide +kernel
theorem dX2_doRest_24 : decode cX2_doRest 24 = .ok (.putfield 9, 3) := by decide +kernel
theorem dX2_doRest_27 : decode cX2_doRest 27 = .ok (.aload_n 0, 1) := by decide +kernel
theorem dX2_doRest_28 : decode cX2_doRest 28 = .ok (.getfield 9, 3) := by decide +kernel
theorem dX2_doRest_31 : decode cX2_doRest 31 = .ok (.ireturn, 1) := by decide +kernel
theorem dX2_doFold_0 : decode cX2_doFold 0 = .ok (.aload_n 0, 1) := by decide +kernel
theorem dX2_doFold_1 : decode cX2_doFold 1 = .ok (.getfield 24, 3) := by decide +kernel
theorem dX2_doFold_4 : decode cX2_doFold 4 = .ok (.iconst 1, 1) := by decide +kernel
theorem dX2_doFold_5 : decode cX2_doFold 5 = .ok (.iconst 0, 1) := by decide +kernel
theorem dX2_doFold_6 : decode cX2_doFold 6 = .ok (.invokevirtual 37, 3) := by decide +kernel
theorem dX2_doFold_9 : decode cX2_doFold 9 = .ok (.aload_n 0, 1) := by decide +kernel
theorem dX2_doFold_10 : decode cX2_doFold 10 = .ok (.aload_n 0, 1) := by decide +kernel
theorem dX2_doFold_11 : decode cX2_doFold 11 = .ok (.getfield 9, 3) := by decide +kernel
theorem dX2_doFold_14 : decode cX2_doFold 14 = .ok (.iconst 2, 1) := by decide +kernel
theorem dX2_doFold_15 : decode cX2_doFold 15 = .ok (.idiv, 1) := by decide +kernel
theorem dX2_doFold_16 : decode cX2_doFold 16 = .ok (.putfield 9, 3) := by decide +kernel
theorem dX2_doFold_19 : decode cX2_doFold 19 = .ok (.aload_n 0, 1) := by decide +kernel
theorem dX2_doFold_20 : decode cX2_doFold 20 = .ok (.dup, 1) := by decide +kernel
theorem dX2_doFold_21 : decode cX2_doFold 21 = .ok (.getfield 15, 3) := by decide +kernel
theorem dX2_doFold_24 : decode cX2_doFold 24 = .ok (.iconst 1, 1) := by decide +kernel
theorem dX2_doFold_25 : decode cX2_doFold 25 = .ok (.iadd, 1) := by decide +kernel
theorem dX2_doFold_26 : decode cX2_doFold 26 = .ok (.putfield 15, 3) := by decide +kernel
theorem dX2_doFold_29 : decode cX2_doFold 29 = .ok (.return_, 1) := by decide +kernel
theorem dX2_doLay_0 : decode cX2_doLay 0 = .ok (.aload_n 0, 1) := by decide +kernel
theorem dX2_doLay_1 : decode cX2_doLay 1 = .ok (.getfield 24, 3) := by decide +kernel
theorem dX2_doLay_4 : decode cX2_doLay 4 = .ok (.iconst 2, 1) := by decide +kernel
theorem dX2_doLay_5 : decode cX2_doLay 5 = .ok (.iconst 0, 1) := by decide +kernel
theorem dX2_doLay_6 : decode cX2_doLay 6 = .ok (.invokevirtual 37, 3) := by decide +kernel
theorem dX2_doLay_9 : decode cX2_doLay 9 = .ok (.aload_n 1, 1) := by decide +kernel
theorem dX2_doLay_10 : decode cX2_doLay 10 = .ok (.invokevirtual 49, 3) := by decide +kernel
theorem dX2_doLay_13 : decode cX2_doLay 13 = .ok (.ifCond .eq 26, 3) := by decide +kernel
theorem dX2_doLay_16 : decode cX2_doLay 16 = .ok (.aload_n 0, 1) := by decide +kernel
theorem dX2_doLay_17 : decode cX2_doLay 17 = .ok (.getfield 24, 3) := by decide +kernel
theorem dX2_doLay_20 : decode cX2_doLay 20 = .ok (.dup, 1) := by decide +kernel
theorem dX2_doLay_21 : decode cX2_doLay 21 = .ok (.getfield 55, 3) := by decide +kernel
theorem dX2_doLay_24 : decode cX2_doLay 24 = .ok (.iconst 1, 1) := by decide +kernel
theorem dX2_doLay_25 : decode cX2_doLay 25 = .ok (.iadd, 1) := by decide +kernel
theorem dX2_doLay_26 : decode cX2_doLay 26 = .ok (.putfield 55, 3) := by decide +kernel
theorem dX2_doLay_29 : decode cX2_doLay 29 = .ok (.new 58, 3) := by decide +kernel
theorem dX2_doLay_32 : decode cX2_doLay 32 = .ok (.dup, 1) := by decide +kernel
theorem dX2_doLay_33 : decode cX2_doLay 33 = .ok (.ldc 60, 2) := by decide +kernel
theorem dX2_doLay_35 : decode cX2_doLay 35 = .ok (.invokespecial 62, 3) := by decide +kernel
theorem dX2_doLay_38 : decode cX2_doLay 38 = .ok (.athrow, 1) := by decide +kernel
theorem dX2_doLay_39 : decode cX2_doLay 39 = .ok (.aload_n 1, 1) := by decide +kernel
theorem dX2_doLay_40 : decode cX2_doLay 40 = .ok (.iload_n 2, 1) := by decide +kernel
theorem dX2_doLay_41 : decode cX2_doLay 41 = .ok (.invokevirtual 65, 3) := by decide +kernel
theorem dX2_doLay_44 : decode cX2_doLay 44 = .ok (.ifCond .ne 26, 3) := by decide +kernel
theorem dX2_doLay_47 : decode cX2_doLay 47 = .ok (.aload_n 0, 1) := by decide +kernel
theorem dX2_doLay_48 : decode cX2_doLay 48 = .ok (.getfield 24, 3) := by decide +kernel
theorem dX2_doLay_51 : decode cX2_doLay 51 = .ok (.dup, 1) := by decide +kernel
theorem dX2_doLay_52 : decode cX2_doLay 52 = .ok (.getfield 55, 3) := by decide +kernel
theorem dX2_doLay_55 : decode cX2_doLay 55 = .ok (.iconst 1, 1) := by decide +kernel
theorem dX2_doLay_56 : decode cX2_doLay 56 = .ok (.iadd, 1) := by decide +kernel
theorem dX2_doLay_57 : decode cX2_doLay 57 = .ok (.putfield 55, 3) := by decide +kernel
theorem dX2_doLay_60 : decode cX2_doLay 60 = .ok (.new 69, 3) := by decide +kernel
theorem dX2_doLay_63 : decode cX2_doLay 63 = .ok (.dup, 1) := by decide +kernel
theorem dX2_doLay_64 : decode cX2_doLay 64 = .ok (.ldc 71, 2) := by decide +kernel
theorem dX2_doLay_66 : decode cX2_doLay 66 = .ok (.invokespecial 73, 3) := by decide +kernel
theorem dX2_doLay_69 : decode cX2_doLay 69 = .ok (.athrow, 1) := by decide +kernel
theorem dX2_doLay_70 : decode cX2_doLay 70 = .ok (.aload_n 1, 1) := by decide +kernel
theorem dX2_doLay_71 : decode cX2_doLay 71 = .ok (.iload_n 2, 1) := by decide +kernel
theorem dX2_doLay_72 : decode cX2_doLay 72 = .ok (.aload_n 0, 1) := by decide +kernel
theorem dX2_doLay_73 : decode cX2_doLay 73 = .ok (.getfield 28, 3) := by decide +kernel
theorem dX2_doLay_76 : decode cX2_doLay 76 = .ok (.invokevirtual 74, 3) := by decide +kernel
theorem dX2_doLay_79 : decode cX2_doLay 79 = .ok (.return_, 1) := by decide +kernel
theorem dX2_doBake_0 : decode cX2_doBake 0 = .ok (.aload_n 0, 1) := by decide +kernel
theorem dX2_doBake_1 : decode cX2_doBake 1 = .ok (.getfield 24, 3) := by decide +kernel
theorem dX2_doBake_4 : decode cX2_doBake 4 = .ok (.iconst 3, 1) := by decide +kernel
theorem dX2_doBake_5 : decode cX2_doBake 5 = .ok (.iconst 0, 1) := by decide +kernel
theorem dX2_doBake_6 : decode cX2_doBake 6 = .ok (.invokevirtual 37, 3) := by decide +kernel
theorem dX2_doBake_9 : decode cX2_doBake 9 = .ok (.aload_n 0, 1) := by decide +kernel
theorem dX2_doBake_10 : decode cX2_doBake 10 = .ok (.dup, 1) := by decide +kernel
theorem dX2_doBake_11 : decode cX2_doBake 11 = .ok (.getfield 21, 3) := by decide +kernel
theorem dX2_doBake_14 : decode cX2_doBake 14 = .ok (.iload_n 1, 1) := by decide +kernel
theorem dX2_doBake_15 : decode cX2_doBake 15 = .ok (.aload_n 0, 1) := by decide +kernel
theorem dX2_doBake_16 : decode cX2_doBake 16 = .ok (.getfield 9, 3) := by decide +kernel
theorem dX2_doBake_19 : decode cX2_doBake 19 = .ok (.iadd, 1) := by decide +kernel
theorem dX2_doBake_20 : decode cX2_doBake 20 = .ok (.bipush 10, 2) := by decide +kernel
theorem dX2_doBake_22 : decode cX2_doBake 22 = .ok (.idiv, 1) := by decide +kernel
theorem dX2_doBake_23 : decode cX2_doBake 23 = .ok (.iadd, 1) := by decide +kernel
theorem dX2_doBake_24 : decode cX2_doBake 24 = .ok (.putfield 21, 3) := by decide +kernel
theorem dX2_doBake_27 : decode cX2_doBake 27 = .ok (.aload_n 0, 1) := by decide +kernel
theorem dX2_doBake_28 : decode cX2_doBake 28 = .ok (.invokevirtual 77, 3) := by decide +kernel
theorem dX2_doBake_31 : decode cX2_doBake 31 = .ok (.ireturn, 1) := by decide +kernel
theorem dX2_askWorth_0 : decode cX2_askWorth 0 = .ok (.aload_n 0, 1) := by decide +kernel
theorem dX2_askWorth_1 : decode cX2_askWorth 1 = .ok (.getfield 24, 3) := by decide +kernel
theorem dX2_askWorth_4 : decode cX2_askWorth 4 = .ok (.iconst 4, 1) := by decide +kernel
theorem dX2_askWorth_5 : decode cX2_askWorth 5 = .ok (.iconst 0, 1) := by decide +kernel
theorem dX2_askWorth_6 : decode cX2_askWorth 6 = .ok (.invokevirtual 37, 3) := by decide +kernel
theorem dX2_askWorth_9 : decode cX2_askWorth 9 = .ok (.aload_n 0, 1) := by decide +kernel
theorem dX2_askWorth_10 : decode cX2_askWorth 10 = .ok (.getfield 34, 3) := by decide +kernel
theorem dX2_askWorth_13 : decode cX2_askWorth 13 = .ok (.bipush 10, 2) := by decide +kernel
theorem dX2_askWorth_15 : decode cX2_askWorth 15 = .ok (.idiv, 1) := by decide +kernel
theorem dX2_askWorth_16 : decode cX2_askWorth 16 = .ok (.iconst 2, 1) := by decide +kernel
theorem dX2_askWorth_17 : decode cX2_askWorth 17 = .ok (.aload_n 0, 1) := by decide +kernel
theorem dX2_askWorth_18 : decode cX2_askWorth 18 = .ok (.getfield 15, 3) := by decide +kernel
theorem dX2_askWorth_21 : decode cX2_askWorth 21 = .ok (.imul, 1) := by decide +kernel
theorem dX2_askWorth_22 : decode cX2_askWorth 22 = .ok (.iadd, 1) := by decide +kernel
theorem dX2_askWorth_23 : decode cX2_askWorth 23 = .ok (.ireturn, 1) := by decide +kernel
theorem dX2_isDoneByCrust_0 : decode cX2_isDoneByCrust 0 = .ok (.aload_n 0, 1) := by decide +kernel
theorem dX2_isDoneByCrust_1 : decode cX2_isDoneByCrust 1 = .ok (.getfield 21, 3) := by decide +kernel
theorem dX2_isDoneByCrust_4 : decode cX2_isDoneByCrust 4 = .ok (.bipush 20, 2) := by decide +kernel
theorem dX2_isDoneByCrust_6 : decode cX2_isDoneByCrust 6 = .ok (.if_icmp .lt 7, 3) := by decide +kernel
theorem dX2_isDoneByCrust_9 : decode cX2_isDoneByCrust 9 = .ok (.iconst 1, 1) := by decide +kernel
theorem dX2_isDoneByCrust_10 : decode cX2_isDoneByCrust 10 = .ok (.goto 4, 3) := by decide +kernel
theorem dX2_isDoneByCrust_13 : decode cX2_isDoneByCrust 13 = .ok (.iconst 0, 1) := by decide +kernel
theorem dX2_isDoneByCrust_14 : decode cX2_isDoneByCrust 14 = .ok (.ireturn, 1) := by decide +kernel
theorem dX3_init_0 : decode cX3_init 0 = .ok (.aload_n 0, 1) := by decide +kernel
theorem dX3_init_1 : decode cX3_init 1 = .ok (.aload_n 1, 1) := by decide +kernel
theorem dX3_init_2 : decode cX3_init 2 = .ok (.iload_n 2, 1) := by decide +kernel
theorem dX3_init_3 : decode cX3_init 3 = .ok (.iload_n 3, 1) := by decide +kernel
theorem dX3_init_4 : decode cX3_init 4 = .ok (.iload 4, 2) := by decide +kernel
theorem dX3_init_6 : decode cX3_init 6 = .ok (.invokespecial 3, 3) := by decide +kernel
theorem dX3_init_9 : decode cX3_init 9 = .ok (.return_, 1) := by decide +kernel
theorem dX3_doFold_0 : decode cX3_doFold 0 = .ok (.aload_n 0, 1) := by decide +kernel
theorem dX3_doFold_1 : decode cX3_doFold 1 = .ok (.getfield 9, 3) := by decide +kernel
theorem dX3_doFold_4 : decode cX3_doFold 4 = .ok (.iconst 1, 1) := by decide +kernel
theorem dX3_doFold_5 : decode cX3_doFold 5 = .ok (.bipush 6, 2) := by decide +kernel
theorem dX3_doFold_7 : decode cX3_doFold 7 = .ok (.invokevirtual 15, 3) := by decide +kernel
theorem dX3_doFold_10 : decode cX3_doFold 10 = .ok (.aload_n 0, 1) := by decide +kernel
theorem dX3_doFold_11 : decode cX3_doFold 11 = .ok (.dup, 1) := by decide +kernel
theorem dX3_doFold_12 : decode cX3_doFold 12 = .ok (.getfield 21, 3) := by decide +kernel
theorem dX3_doFold_15 : decode cX3_doFold 15 = .ok (.iconst 1, 1) := by decide +kernel
theorem dX3_doFold_16 : decode cX3_doFold 16 = .ok (.iadd, 1) := by decide +kernel
theorem dX3_doFold_17 : decode cX3_doFold 17 = .ok (.putfield 21, 3) := by decide +kernel
theorem dX3_doFold_20 : decode cX3_doFold 20 = .ok (.return_, 1) := by decide +kernel
theorem dX3_doLay_0 : decode cX3_doLay 0 = .ok (.aload_n 0, 1) := by decide +kernel
theorem dX3_doLay_1 : decode cX3_doLay 1 = .ok (.getfield 9, 3) := by decide +kernel
theorem dX3_doLay_4 : decode cX3_doLay 4 = .ok (.iconst 2, 1) := by decide +kernel
theorem dX3_doLay_5 : decode cX3_doLay 5 = .ok (.bipush 6, 2) := by decide +kernel
theorem dX3_doLay_7 : decode cX3_doLay 7 = .ok (.invokevirtual 15, 3) := by decide +kernel
theorem dX3_doLay_10 : decode cX3_doLay 10 = .ok (.aload_n 0, 1) := by decide +kernel
theorem dX3_doLay_11 : decode cX3_doLay 11 = .ok (.aload_n 1, 1) := by decide +kernel
theorem dX3_doLay_12 : decode cX3_doLay 12 = .ok (.iload_n 2, 1) := by decide +kernel
theorem dX3_doLay_13 : decode cX3_doLay 13 = .ok (.iconst 2, 1) := by decide +kernel
theorem dX3_doLay_14 : decode cX3_doLay 14 = .ok (.idiv, 1) := by decide +kernel
theorem dX3_doLay_15 : decode cX3_doLay 15 = .ok (.invokespecial 25, 3) := by decide +kernel
theorem dX3_doLay_18 : decode cX3_doLay 18 = .ok (.return_, 1) := by decide +kernel
theorem dX3_doBake_0 : decode cX3_doBake 0 = .ok (.aload_n 0, 1) := by decide +kernel
theorem dX3_doBake_1 : decode cX3_doBake 1 = .ok (.getfield 9, 3) := by decide +kernel
theorem dX3_doBake_4 : decode cX3_doBake 4 = .ok (.iconst 3, 1) := by decide +kernel
theorem dX3_doBake_5 : decode cX3_doBake 5 = .ok (.bipush 6, 2) := by decide +kernel
theorem dX3_doBake_7 : decode cX3_doBake 7 = .ok (.invokevirtual 15, 3) := by decide +kernel
theorem dX3_doBake_10 : decode cX3_doBake 10 = .ok (.aload_n 0, 1) := by decide +kernel
theorem dX3_doBake_11 : decode cX3_doBake 11 = .ok (.iconst 2, 1) := by decide +kernel
theorem dX3_doBake_12 : decode cX3_doBake 12 = .ok (.iload_n 1, 1) := by decide +kernel
theorem dX3_doBake_13 : decode cX3_doBake 13 = .ok (.imul, 1) := by decide +kernel
theorem dX3_doBake_14 : decode cX3_doBake 14 = .ok (.invokespecial 29, 3) := by decide +kernel
theorem dX3_doBake_17 : decode cX3_doBake 17 = .ok (.ireturn, 1) := by decide +kernel
theorem dX3_askWorth_0 : decode cX3_askWorth 0 = .ok (.aload_n 0, 1) := by decide +kernel
theorem dX3_askWorth_1 : decode cX3_askWorth 1 = .ok (.getfield 9, 3) := by decide +kernel
theorem dX3_askWorth_4 : decode cX3_askWorth 4 = .ok (.iconst 4, 1) := by decide +kernel
theorem dX3_askWorth_5 : decode cX3_askWorth 5 = .ok (.bipush 6, 2) := by decide +kernel
theorem dX3_askWorth_7 : decode cX3_askWorth 7 = .ok (.invokevirtual 15, 3) := by decide +kernel
theorem dX3_askWorth_10 : decode cX3_askWorth 10 = .ok (.aload_n 0, 1) := by decide +kernel
theorem dX3_askWorth_11 : decode cX3_askWorth 11 = .ok (.getfield 33, 3) := by decide +kernel
theorem dX3_askWorth_14 : decode cX3_askWorth 14 = .ok (.ifCond .ne 26, 3) := by decide +kernel
theorem dX3_askWorth_17 : decode cX3_askWorth 17 = .ok (.aload_n 0, 1) := by decide +kernel
theorem dX3_askWorth_18 : decode cX3_askWorth 18 = .ok (.getfield 9, 3) := by decide +kernel
theorem dX3_askWorth_21 : decode cX3_askWorth 21 = .ok (.dup, 1) := by decide +kernel
theorem dX3_askWorth_22 : decode cX3_askWorth 22 = .ok (.getfield 36, 3) := by decide +kernel
theorem dX3_askWorth_25 : decode cX3_askWorth 25 = .ok (.iconst 1, 1) := by decide +kernel
theorem dX3_askWorth_26 : decode cX3_askWorth 26 = .ok (.iadd, 1) := by decide +kernel
theorem dX3_askWorth_27 : decode cX3_askWorth 27 = .ok (.putfield 36, 3) := by decide +kernel
theorem dX3_askWorth_30 : decode cX3_askWorth 30 = .ok (.new 39, 3) := by decide +kernel
theorem dX3_askWorth_33 : decode cX3_askWorth 33 = .ok (.dup, 1) := by decide +kernel
theorem dX3_askWorth_34 : decode cX3_askWorth 34 = .ok (.ldc 41, 2) := by decide +kernel
theorem dX3_askWorth_36 : decode cX3_askWorth 36 = .ok (.invokespecial 43, 3) := by decide +kernel
theorem dX3_askWorth_39 : decode cX3_askWorth 39 = .ok (.athrow, 1) := by decide +kernel
theorem dX3_askWorth_40 : decode cX3_askWorth 40 = .ok (.sipush 1000, 3) := by decide +kernel
theorem dX3_askWorth_43 : decode cX3_askWorth 43 = .ok (.aload_n 0, 1) := by decide +kernel
theorem dX3_askWorth_44 : decode cX3_askWorth 44 = .ok (.getfield 33, 3) := by decide +kernel
theorem dX3_askWorth_47 : decode cX3_askWorth 47 = .ok (.idiv, 1) := by decide +kernel
theorem dX3_askWorth_48 : decode cX3_askWorth 48 = .ok (.ireturn, 1) := by decide +kernel
theorem dX4_init_0 : decode cX4_init 0 = .ok (.aload_n 0, 1) := by decide +kernel
theorem dX4_init_1 : decode cX4_init 1 = .ok (.aload_n 1, 1) := by decide +kernel
theorem dX4_init_2 : decode cX4_init 2 = .ok (.iload_n 2, 1) := by decide +kernel
theorem dX4_init_3 : decode cX4_init 3 = .ok (.iload_n 3, 1) := by decide +kernel
theorem dX4_init_4 : decode cX4_init 4 = .ok (.iload 4, 2) := by decide +kernel
theorem dX4_init_6 : decode cX4_init 6 = .ok (.invokespecial 1, 3) := by decide +kernel
theorem dX4_init_9 : decode cX4_init 9 = .ok (.return_, 1) := by decide +kernel
theorem dX5_init_0 : decode cX5_init 0 = .ok (.aload_n 0, 1) := by decide +kernel
theorem dX5_init_1 : decode cX5_init 1 = .ok (.aload_n 1, 1) := by decide +kernel
theorem dX5_init_2 : decode cX5_init 2 = .ok (.iload_n 2, 1) := by decide +kernel
theorem dX5_init_3 : decode cX5_init 3 = .ok (.iload_n 3, 1) := by decide +kernel
theorem dX5_init_4 : decode cX5_init 4 = .ok (.iload 4, 2) := by decide +kernel
theorem dX5_init_6 : decode cX5_init 6 = .ok (.invokespecial 3, 3) := by decide +kernel
theorem dX5_init_9 : decode cX5_init 9 = .ok (.return_, 1) := by decide +kernel
theorem dX5_doRest_0 : decode cX5_doRest 0 = .ok (.aload_n 0, 1) := by decide +kernel
theorem dX5_doRest_1 : decode cX5_doRest 1 = .ok (.getfield 9, 3) := by decide +kernel
theorem dX5_doRest_4 : decode cX5_doRest 4 = .ok (.iconst 0, 1) := by decide +kernel
theorem dX5_doRest_5 : decode cX5_doRest 5 = .ok (.bipush 7, 2) := by decide +kernel
theorem dX5_doRest_7 : decode cX5_doRest 7 = .ok (.invokevirtual 15, 3) := by decide +kernel
theorem dX5_doRest_10 : decode cX5_doRest 10 = .ok (.aload_n 0, 1) := by decide +kernel
theorem dX5_doRest_11 : decode cX5_doRest 11 = .ok (.iload_n 1, 1) := by decide +kernel
theorem dX5_doRest_12 : decode cX5_doRest 12 = .ok (.aload_n 0, 1) := by decide +kernel
theorem dX5_doRest_13 : decode cX5_doRest 13 = .ok (.getfield 21, 3) := by decide +kernel
theorem dX5_doRest_16 : decode cX5_doRest 16 = .ok (.iadd, 1) := by decide +kernel
theorem dX5_doRest_17 : decode cX5_doRest 17 = .ok (.invokespecial 25, 3) := by decide +kernel
theorem dX5_doRest_20 : decode cX5_doRest 20 = .ok (.ireturn, 1) := by decide +kernel
theorem dX5_doLay_0 : decode cX5_doLay 0 = .ok (.aload_n 0, 1) := by decide +kernel
theorem dX5_doLay_1 : decode cX5_doLay 1 = .ok (.getfield 9, 3) := by decide +kernel
theorem dX5_doLay_4 : decode cX5_doLay 4 = .ok (.iconst 2, 1) := by decide +kernel
theorem dX5_doLay_5 : decode cX5_doLay 5 = .ok (.bipush 7, 2) := by decide +kernel
theorem dX5_doLay_7 : decode cX5_doLay 7 = .ok (.invokevirtual 15, 3) := by decide +kernel
theorem dX5_doLay_10 : decode cX5_doLay 10 = .ok (.aload_n 0, 1) := by decide +kernel
theorem dX5_doLay_11 : decode cX5_doLay 11 = .ok (.invokevirtual 29, 3) := by decide +kernel
theorem dX5_doLay_14 : decode cX5_doLay 14 = .ok (.aload_n 0, 1) := by decide +kernel
theorem dX5_doLay_15 : decode cX5_doLay 15 = .ok (.aload_n 1, 1) := by decide +kernel
theorem dX5_doLay_16 : decode cX5_doLay 16 = .ok (.iload_n 2, 1) := by decide +kernel
theorem dX5_doLay_17 : decode cX5_doLay 17 = .ok (.invokespecial 33, 3) := by decide +kernel
theorem dX5_doLay_20 : decode cX5_doLay 20 = .ok (.return_, 1) := by decide +kernel
theorem dX5_askWorth_0 : decode cX5_askWorth 0 = .ok (.aload_n 0, 1) := by decide +kernel
theorem dX5_askWorth_1 : decode cX5_askWorth 1 = .ok (.getfield 9, 3) := by decide +kernel
theorem dX5_askWorth_4 : decode cX5_askWorth 4 = .ok (.iconst 4, 1) := by decide +kernel
theorem dX5_askWorth_5 : decode cX5_askWorth 5 = .ok (.bipush 7, 2) := by decide +kernel
theorem dX5_askWorth_7 : decode cX5_askWorth 7 = .ok (.invokevirtual 15, 3) := by decide +kernel
theorem dX5_askWorth_10 : decode cX5_askWorth 10 = .ok (.aload_n 0, 1) := by decide +kernel
theorem dX5_askWorth_11 : decode cX5_askWorth 11 = .ok (.invokevirtual 37, 3) := by decide +kernel
theorem dX5_askWorth_14 : decode cX5_askWorth 14 = .ok (.ifCond .eq 7, 3) := by decide +kernel
theorem dX5_askWorth_17 : decode cX5_askWorth 17 = .ok (.iconst 5, 1) := by decide +kernel
theorem dX5_askWorth_18 : decode cX5_askWorth 18 = .ok (.goto 4, 3) := by decide +kernel
theorem dX5_askWorth_21 : decode cX5_askWorth 21 = .ok (.iconst 0, 1) := by decide +kernel
theorem dX5_askWorth_22 : decode cX5_askWorth 22 = .ok (.istore_n 1, 1) := by decide +kernel
theorem dX5_askWorth_23 : decode cX5_askWorth 23 = .ok (.aload_n 0, 1) := by decide +kernel
theorem dX5_askWorth_24 : decode cX5_askWorth 24 = .ok (.invokespecial 41, 3) := by decide +kernel
theorem dX5_askWorth_27 : decode cX5_askWorth 27 = .ok (.iload_n 1, 1) := by decide +kernel
theorem dX5_askWorth_28 : decode cX5_askWorth 28 = .ok (.iadd, 1) := by decide +kernel
theorem dX5_askWorth_29 : decode cX5_askWorth 29 = .ok (.ireturn, 1) := by decide +kernel
theorem dX6_init_0 : decode cX6_init 0 = .ok (.aload_n 0, 1) := by decide +kernel
theorem dX6_init_1 : decode cX6_init 1 = .ok (.aload_n 1, 1) := by decide +kernel
theorem dX6_init_2 : decode cX6_init 2 = .ok (.iload_n 2, 1) := by decide +kernel
theorem dX6_init_3 : decode cX6_init 3 = .ok (.iload_n 3, 1) := by decide +kernel
theorem dX6_init_4 : decode cX6_init 4 = .ok (.iload 4, 2) := by decide +kernel
theorem dX6_init_6 : decode cX6_init 6 = .ok (.invokespecial 3, 3) := by decide +kernel
theorem dX6_init_9 : decode cX6_init 9 = .ok (.return_, 1) := by decide +kernel
theorem dX6_doRest_0 : decode cX6_doRest 0 = .ok (.aload_n 0, 1) := by decide +kernel
theorem dX6_doRest_1 : decode cX6_doRest 1 = .ok (.getfield 9, 3) := by decide +kernel
theorem dX6_doRest_4 : decode cX6_doRest 4 = .ok (.iconst 0, 1) := by decide +kernel
theorem dX6_doRest_5 : decode cX6_doRest 5 = .ok (.iconst 2, 1) := by decide +kernel
theorem dX6_doRest_6 : decode cX6_doRest 6 = .ok (.invokevirtual 15, 3) := by decide +kernel
theorem dX6_doRest_9 : decode cX6_doRest 9 = .ok (.aload_n 0, 1) := by decide +kernel
theorem dX6_doRest_10 : decode cX6_doRest 10 = .ok (.iload_n 1, 1) := by decide +kernel
theorem dX6_doRest_11 : decode cX6_doRest 11 = .ok (.iconst 2, 1) := by decide +kernel
theorem dX6_doRest_12 : decode cX6_doRest 12 = .ok (.idiv, 1) := by decide +kernel
theorem dX6_doRest_13 : decode cX6_doRest 13 = .ok (.invokespecial 21, 3) := by decide +kernel
theorem dX6_doRest_16 : decode cX6_doRest 16 = .ok (.ireturn, 1) := by decide +kernel
theorem dX6_doBake_0 : decode cX6_doBake 0 = .ok (.aload_n 0, 1) := by decide +kernel
theorem dX6_doBake_1 : decode cX6_doBake 1 = .ok (.getfield 9, 3) := by decide +kernel
theorem dX6_doBake_4 : decode cX6_doBake 4 = .ok (.iconst 3, 1) := by decide +kernel
theorem dX6_doBake_5 : decode cX6_doBake 5 = .ok (.iconst 2, 1) := by decide +kernel
theorem dX6_doBake_6 : decode cX6_doBake 6 = .ok (.invokevirtual 15, 3) := by decide +kernel
theorem dX6_doBake_9 : decode cX6_doBake 9 = .ok (.aload_n 0, 1) := by decide +kernel
theorem dX6_doBake_10 : decode cX6_doBake 10 = .ok (.iload_n 1, 1) := by decide +kernel
theorem dX6_doBake_11 : decode cX6_doBake 11 = .ok (.bipush 30, 2) := by decide +kernel
theorem dX6_doBake_13 : decode cX6_doBake 13 = .ok (.isub, 1) := by decide +kernel
theorem dX6_doBake_14 : decode cX6_doBake 14 = .ok (.invokespecial 25, 3) := by decide +kernel
theorem dX6_doBake_17 : decode cX6_doBake 17 = .ok (.ireturn, 1) := by decide +kernel
theorem dX7_init_0 : decode cX7_init 0 = .ok (.aload_n 0, 1) := by decide +kernel
theorem dX7_init_1 : decode cX7_init 1 = .ok (.invokespecial 3, 3) := by decide +kernel
theorem dX7_init_4 : decode cX7_init 4 = .ok (.aload_n 0, 1) := by decide +kernel
theorem dX7_init_5 : decode cX7_init 5 = .ok (.bipush 8, 2) := by decide +kernel
theorem dX7_init_7 : decode cX7_init 7 = .ok (.newarray .int, 2) := by decide +kernel
theorem dX7_init_9 : decode cX7_init 9 = .ok (.putfield 9, 3) := by decide +kernel
theorem dX7_init_12 : decode cX7_init 12 = .ok (.aload_n 0, 1) := by decide +kernel
theorem dX7_init_13 : decode cX7_init 13 = .ok (.iconst (-1), 1) := by decide +kernel
theorem dX7_init_14 : decode cX7_init 14 = .ok (.putfield 15, 3) := by decide +kernel
theorem dX7_init_17 : decode cX7_init 17 = .ok (.return_, 1) := by decide +kernel
theorem dX7_isOut_0 : decode cX7_isOut 0 = .ok (.aload_n 0, 1) := by decide +kernel
theorem dX7_isOut_1 : decode cX7_isOut 1 = .ok (.getfield 15, 3) := by decide +kernel
theorem dX7_isOut_4 : decode cX7_isOut 4 = .ok (.iconst (-1), 1) := by decide +kernel
theorem dX7_isOut_5 : decode cX7_isOut 5 = .ok (.if_icmp .ne 7, 3) := by decide +kernel
theorem dX7_isOut_8 : decode cX7_isOut 8 = .ok (.iconst 1, 1) := by decide +kernel
theorem dX7_isOut_9 : decode cX7_isOut 9 = .ok (.goto 4, 3) := by decide +kernel
theorem dX7_isOut_12 : decode cX7_isOut 12 = .ok (.iconst 0, 1) := by decide +kernel
theorem dX7_isOut_13 : decode cX7_isOut 13 = .ok (.ireturn, 1) := by decide +kernel
theorem dX7_bringIn_0 : decode cX7_bringIn 0 = .ok (.aload_n 0, 1) := by decide +kernel
theorem dX7_bringIn_1 : decode cX7_bringIn 1 = .ok (.iload_n 1, 1) := by decide +kernel
theorem dX7_bringIn_2 : decode cX7_bringIn 2 = .ok (.putfield 15, 3) := by decide +kernel
theorem dX7_bringIn_5 : decode cX7_bringIn 5 = .ok (.iconst 0, 1) := by decide +kernel
theorem dX7_bringIn_6 : decode cX7_bringIn 6 = .ok (.istore_n 2, 1) := by decide +kernel
theorem dX7_bringIn_7 : decode cX7_bringIn 7 = .ok (.iload_n 2, 1) := by decide +kernel
theorem dX7_bringIn_8 : decode cX7_bringIn 8 = .ok (.bipush 8, 2) := by decide +kernel
theorem dX7_bringIn_10 : decode cX7_bringIn 10 = .ok (.if_icmp .ge 16, 3) := by decide +kernel
theorem dX7_bringIn_13 : decode cX7_bringIn 13 = .ok (.aload_n 0, 1) := by decide +kernel
theorem dX7_bringIn_14 : decode cX7_bringIn 14 = .ok (.getfield 9, 3) := by decide +kernel
theorem dX7_bringIn_17 : decode cX7_bringIn 17 = .ok (.iload_n 2, 1) := by decide +kernel
theorem dX7_bringIn_18 : decode cX7_bringIn 18 = .ok (.iconst (-1), 1) := by decide +kernel
theorem dX7_bringIn_19 : decode cX7_bringIn 19 = .ok (.iastore, 1) := by decide +kernel
theorem dX7_bringIn_20 : decode cX7_bringIn 20 = .ok (.iinc 2 1, 3) := by decide +kernel
theorem dX7_bringIn_23 : decode cX7_bringIn 23 = .ok (.goto (-16), 3) := by decide +kernel
theorem dX7_bringIn_26 : decode cX7_bringIn 26 = .ok (.return_, 1) := by decide +kernel
theorem dX7_takeOut_0 : decode cX7_takeOut 0 = .ok (.aload_n 0, 1) := by decide +kernel
theorem dX7_takeOut_1 : decode cX7_takeOut 1 = .ok (.iconst (-1), 1) := by decide +kernel
theorem dX7_takeOut_2 : decode cX7_takeOut 2 = .ok (.putfield 15, 3) := by decide +kernel
theorem dX7_takeOut_5 : decode cX7_takeOut 5 = .ok (.return_, 1) := by decide +kernel
theorem dX7_has_0 : decode cX7_has 0 = .ok (.iload_n 1, 1) := by decide +kernel
theorem dX7_has_1 : decode cX7_has 1 = .ok (.ifCond .lt 21, 3) := by decide +kernel
theorem dX7_has_4 : decode cX7_has 4 = .ok (.iload_n 1, 1) := by decide +kernel
theorem dX7_has_5 : decode cX7_has 5 = .ok (.aload_n 0, 1) := by decide +kernel
theorem dX7_has_6 : decode cX7_has 6 = .ok (.getfield 15, 3) := by decide +kernel
theorem dX7_has_9 : decode cX7_has 9 = .ok (.if_icmp .ge 13, 3) := by decide +kernel
theorem dX7_has_12 : decode cX7_has 12 = .ok (.iload_n 1, 1) := by decide +kernel
theorem dX7_has_13 : decode cX7_has 13 = .ok (.bipush 8, 2) := by decide +kernel
theorem dX7_has_15 : decode cX7_has 15 = .ok (.if_icmp .ge 7, 3) := by decide +kernel
theorem dX7_has_18 : decode cX7_has 18 = .ok (.iconst 1, 1) := by decide +kernel
theorem dX7_has_19 : decode cX7_has 19 = .ok (.goto 4, 3) := by decide +kernel
theorem dX7_has_22 : decode cX7_has 22 = .ok (.iconst 0, 1) := by decide +kernel
theorem dX7_has_23 : decode cX7_has 23 = .ok (.ireturn, 1) := by decide +kernel
theorem dX7_loafIn_0 : decode cX7_loafIn 0 = .ok (.aload_n 0, 1) := by decide +kernel
theorem dX7_loafIn_1 : decode cX7_loafIn 1 = .ok (.iload_n 1, 1) := by decide +kernel
theorem dX7_loafIn_2 : decode cX7_loafIn 2 = .ok (.invokevirtual 19, 3) := by decide +kernel
theorem dX7_loafIn_5 : decode cX7_loafIn 5 = .ok (.ifCond .eq 12, 3) := by decide +kernel
theorem dX7_loafIn_8 : decode cX7_loafIn 8 = .ok (.aload_n 0, 1) := by decide +kernel
theorem dX7_loafIn_9 : decode cX7_loafIn 9 = .ok (.getfield 9, 3) := by decide +kernel
theorem dX7_loafIn_12 : decode cX7_loafIn 12 = .ok (.iload_n 1, 1) := by decide +kernel
theorem dX7_loafIn_13 : decode cX7_loafIn 13 = .ok (.iaload, 1) := by decide +kernel
theorem dX7_loafIn_14 : decode cX7_loafIn 14 = .ok (.goto 4, 3) := by decide +kernel
theorem dX7_loafIn_17 : decode cX7_loafIn 17 = .ok (.iconst (-1), 1) := by decide +kernel
theorem dX7_loafIn_18 : decode cX7_loafIn 18 = .ok (.ireturn, 1) := by decide +kernel
theorem dX7_put_0 : decode cX7_put 0 = .ok (.aload_n 0, 1) := by decide +kernel
theorem dX7_put_1 : decode cX7_put 1 = .ok (.iload_n 1, 1) := by decide +kernel
theorem dX7_put_2 : decode cX7_put 2 = .ok (.invokevirtual 19, 3) := by decide +kernel
theorem dX7_put_5 : decode cX7_put 5 = .ok (.ifCond .eq 10, 3) := by decide +kernel
theorem dX7_put_8 : decode cX7_put 8 = .ok (.aload_n 0, 1) := by decide +kernel
theorem dX7_put_9 : decode cX7_put 9 = .ok (.getfield 9, 3) := by decide +kernel
theorem dX7_put_12 : decode cX7_put 12 = .ok (.iload_n 1, 1) := by decide +kernel
theorem dX7_put_13 : decode cX7_put 13 = .ok (.iload_n 2, 1) := by decide +kernel
theorem dX7_put_14 : decode cX7_put 14 = .ok (.iastore, 1) := by decide +kernel
theorem dX7_put_15 : decode cX7_put 15 = .ok (.return_, 1) := by decide +kernel
theorem dX7_timesOf_0 : decode cX7_timesOf 0 = .ok (.iconst 0, 1) := by decide +kernel
theorem dX7_timesOf_1 : decode cX7_timesOf 1 = .ok (.istore_n 2, 1) := by decide +kernel
theorem dX7_timesOf_2 : decode cX7_timesOf 2 = .ok (.iconst 0, 1) := by decide +kernel
theorem dX7_timesOf_3 : decode cX7_timesOf 3 = .ok (.istore_n 3, 1) := by decide +kernel
theorem dX7_timesOf_4 : decode cX7_timesOf 4 = .ok (.iload_n 3, 1) := by decide +kernel
theorem dX7_timesOf_5 : decode cX7_timesOf 5 = .ok (.bipush 8, 2) := by decide +kernel
theorem dX7_timesOf_7 : decode cX7_timesOf 7 = .ok (.if_icmp .ge 21, 3) := by decide +kernel
theorem dX7_timesOf_10 : decode cX7_timesOf 10 = .ok (.aload_n 0, 1) := by decide +kernel
theorem dX7_timesOf_11 : decode cX7_timesOf 11 = .ok (.iload_n 3, 1) := by decide +kernel
theorem dX7_timesOf_12 : decode cX7_timesOf 12 = .ok (.invokevirtual 23, 3) := by decide +kernel
theorem dX7_timesOf_15 : decode cX7_timesOf 15 = .ok (.iload_n 1, 1) := by decide +kernel
theorem dX7_timesOf_16 : decode cX7_timesOf 16 = .ok (.if_icmp .ne 6, 3) := by decide +kernel
theorem dX7_timesOf_19 : decode cX7_timesOf 19 = .ok (.iinc 2 1, 3) := by decide +kernel
theorem dX7_timesOf_22 : decode cX7_timesOf 22 = .ok (.iinc 3 1, 3) := by decide +kernel
theorem dX7_timesOf_25 : decode cX7_timesOf 25 = .ok (.goto (-21), 3) := by decide +kernel
theorem dX7_timesOf_28 : decode cX7_timesOf 28 = .ok (.iload_n 2, 1) := by decide +kernel
theorem dX7_timesOf_29 : decode cX7_timesOf 29 = .ok (.ireturn, 1) := by decide +kernel
theorem dX8_init_0 : decode cX8_init 0 = .ok (.aload_n 0, 1) := by decide +kernel
theorem dX8_init_1 : decode cX8_init 1 = .ok (.aload_n 1, 1) := by decide +kernel
theorem dX8_init_2 : decode cX8_init 2 = .ok (.iload_n 2, 1) := by decide +kernel
theorem dX8_init_3 : decode cX8_init 3 = .ok (.iload_n 3, 1) := by decide +kernel
theorem dX8_init_4 : decode cX8_init 4 = .ok (.iload 4, 2) := by decide +kernel
theorem dX8_init_6 : decode cX8_init 6 = .ok (.invokespecial 3, 3) := by decide +kernel
theorem dX8_init_9 : decode cX8_init 9 = .ok (.return_, 1) := by decide +kernel
theorem dX8_doRest_0 : decode cX8_doRest 0 = .ok (.aload_n 0, 1) := by decide +kernel
theorem dX8_doRest_1 : decode cX8_doRest 1 = .ok (.getfield 9, 3) := by decide +kernel
theorem dX8_doRest_4 : decode cX8_doRest 4 = .ok (.iconst 0, 1) := by decide +kernel
theorem dX8_doRest_5 : decode cX8_doRest 5 = .ok (.iconst 4, 1) := by decide +kernel
theorem dX8_doRest_6 : decode cX8_doRest 6 = .ok (.invokevirtual 15, 3) := by decide +kernel
theorem dX8_doRest_9 : decode cX8_doRest 9 = .ok (.aload_n 0, 1) := by decide +kernel
theorem dX8_doRest_10 : decode cX8_doRest 10 = .ok (.dup, 1) := by decide +kernel
theorem dX8_doRest_11 : decode cX8_doRest 11 = .ok (.getfield 21, 3) := by decide +kernel
theorem dX8_doRest_14 : decode cX8_doRest 14 = .ok (.iconst 1, 1) := by decide +kernel
theorem dX8_doRest_15 : decode cX8_doRest 15 = .ok (.iadd, 1) := by decide +kernel
theorem dX8_doRest_16 : decode cX8_doRest 16 = .ok (.putfield 21, 3) := by decide +kernel
theorem dX8_doRest_19 : decode cX8_doRest 19 = .ok (.aload_n 0, 1) := by decide +kernel
theorem dX8_doRest_20 : decode cX8_doRest 20 = .ok (.iload_n 1, 1) := by decide +kernel
theorem dX8_doRest_21 : decode cX8_doRest 21 = .ok (.invokespecial 25, 3) := by decide +kernel
theorem dX8_doRest_24 : decode cX8_doRest 24 = .ok (.ireturn, 1) := by decide +kernel
theorem dX8_doFold_0 : decode cX8_doFold 0 = .ok (.aload_n 0, 1) := by decide +kernel
theorem dX8_doFold_1 : decode cX8_doFold 1 = .ok (.getfield 9, 3) := by decide +kernel
theorem dX8_doFold_4 : decode cX8_doFold 4 = .ok (.iconst 1, 1) := by decide +kernel
theorem dX8_doFold_5 : decode cX8_doFold 5 = .ok (.iconst 4, 1) := by decide +kernel
theorem dX8_doFold_6 : decode cX8_doFold 6 = .ok (.invokevirtual 15, 3) := by decide +kernel
theorem dX8_doFold_9 : decode cX8_doFold 9 = .ok (.aload_n 0, 1) := by decide +kernel
theorem dX8_doFold_10 : decode cX8_doFold 10 = .ok (.invokespecial 29, 3) := by decide +kernel
theorem dX8_doFold_13 : decode cX8_doFold 13 = .ok (.aload_n 0, 1) := by decide +kernel
theorem dX8_doFold_14 : decode cX8_doFold 14 = .ok (.aload_n 0, 1) := by decide +kernel
theorem dX8_doFold_15 : decode cX8_doFold 15 = .ok (.getfield 21, 3) := by decide +kernel
theorem dX8_doFold_18 : decode cX8_doFold 18 = .ok (.iconst 1, 1) := by decide +kernel
theorem dX8_doFold_19 : decode cX8_doFold 19 = .ok (.isub, 1) := by decide +kernel
theorem dX8_doFold_20 : decode cX8_doFold 20 = .ok (.iconst 0, 1) := by decide +kernel
theorem dX8_doFold_21 : decode cX8_doFold 21 = .ok (.invokestatic 33, 3) := by decide +kernel
theorem dX8_doFold_24 : decode cX8_doFold 24 = .ok (.putfield 21, 3) := by decide +kernel
theorem dX8_doFold_27 : decode cX8_doFold 27 = .ok (.return_, 1) := by decide +kernel
theorem dX8_doBake_0 : decode cX8_doBake 0 = .ok (.aload_n 0, 1) := by decide +kernel
theorem dX8_doBake_1 : decode cX8_doBake 1 = .ok (.getfield 9, 3) := by decide +kernel
theorem dX8_doBake_4 : decode cX8_doBake 4 = .ok (.iconst 3, 1) := by decide +kernel
theorem dX8_doBake_5 : decode cX8_doBake 5 = .ok (.iconst 4, 1) := by decide +kernel
theorem dX8_doBake_6 : decode cX8_doBake 6 = .ok (.invokevirtual 15, 3) := by decide +kernel
theorem dX8_doBake_9 : decode cX8_doBake 9 = .ok (.aload_n 0, 1) := by decide +kernel
theorem dX8_doBake_10 : decode cX8_doBake 10 = .ok (.iload_n 1, 1) := by decide +kernel
theorem dX8_doBake_11 : decode cX8_doBake 11 = .ok (.invokespecial 39, 3) := by decide +kernel
theorem dX8_doBake_14 : decode cX8_doBake 14 = .ok (.istore_n 2, 1) := by decide +kernel
theorem dX8_doBake_15 : decode cX8_doBake 15 = .ok (.iload_n 2, 1) := by decide +kernel
theorem dX8_doBake_16 : decode cX8_doBake 16 = .ok (.ifCond .ne 11, 3) := by decide +kernel
theorem dX8_doBake_19 : decode cX8_doBake 19 = .ok (.aload_n 0, 1) := by decide +kernel
theorem dX8_doBake_20 : decode cX8_doBake 20 = .ok (.getfield 21, 3) := by decide +kernel
theorem dX8_doBake_23 : decode cX8_doBake 23 = .ok (.iconst 5, 1) := by decide +kernel
theorem dX8_doBake_24 : decode cX8_doBake 24 = .ok (.if_icmp .le 7, 3) := by decide +kernel
theorem dX8_doBake_27 : decode cX8_doBake 27 = .ok (.iconst 1, 1) := by decide +kernel
theorem dX8_doBake_28 : decode cX8_doBake 28 = .ok (.goto 4, 3) := by decide +kernel
theorem dX8_doBake_31 : decode cX8_doBake 31 = .ok (.iconst 0, 1) := by decide +kernel
theorem dX8_doBake_32 : decode cX8_doBake 32 = .ok (.ireturn, 1) := by decide +kernel
theorem dX8_askWorth_0 : decode cX8_askWorth 0 = .ok (.aload_n 0, 1) := by decide +kernel
theorem dX8_askWorth_1 : decode cX8_askWorth 1 = .ok (.getfield 9, 3) := by decide +kernel
theorem dX8_askWorth_4 : decode cX8_askWorth 4 = .ok (.iconst 4, 1) := by decide +kernel
theorem dX8_askWorth_5 : decode cX8_askWorth 5 = .ok (.iconst 4, 1) := by decide +kernel
theorem dX8_askWorth_6 : decode cX8_askWorth 6 = .ok (.invokevirtual 15, 3) := by decide +kernel
theorem dX8_askWorth_9 : decode cX8_askWorth 9 = .ok (.aload_n 0, 1) := by decide +kernel
theorem dX8_askWorth_10 : decode cX8_askWorth 10 = .ok (.invokespecial 43, 3) := by decide +kernel
theorem dX8_askWorth_13 : decode cX8_askWorth 13 = .ok (.aload_n 0, 1) := by decide +kernel
theorem dX8_askWorth_14 : decode cX8_askWorth 14 = .ok (.getfield 21, 3) := by decide +kernel
theorem dX8_askWorth_17 : decode cX8_askWorth 17 = .ok (.iadd, 1) := by decide +kernel
theorem dX8_askWorth_18 : decode cX8_askWorth 18 = .ok (.ireturn, 1) := by decide +kernel
theorem dX9_init_0 : decode cX9_init 0 = .ok (.aload_n 0, 1) := by decide +kernel
theorem dX9_init_1 : decode cX9_init 1 = .ok (.aload_n 1, 1) := by decide +kernel
theorem dX9_init_2 : decode cX9_init 2 = .ok (.iload_n 2, 1) := by decide +kernel
theorem dX9_init_3 : decode cX9_init 3 = .ok (.iload_n 3, 1) := by decide +kernel
theorem dX9_init_4 : decode cX9_init 4 = .ok (.iload 4, 2) := by decide +kernel
theorem dX9_init_6 : decode cX9_init 6 = .ok (.invokespecial 3, 3) := by decide +kernel
theorem dX9_init_9 : decode cX9_init 9 = .ok (.return_, 1) := by decide +kernel
theorem dX9_doFold_0 : decode cX9_doFold 0 = .ok (.aload_n 0, 1) := by decide +kernel
theorem dX9_doFold_1 : decode cX9_doFold 1 = .ok (.getfield 9, 3) := by decide +kernel
theorem dX9_doFold_4 : decode cX9_doFold 4 = .ok (.iconst 1, 1) := by decide +kernel
theorem dX9_doFold_5 : decode cX9_doFold 5 = .ok (.iconst 3, 1) := by decide +kernel
theorem dX9_doFold_6 : decode cX9_doFold 6 = .ok (.invokevirtual 15, 3) := by decide +kernel
theorem dX9_doFold_9 : decode cX9_doFold 9 = .ok (.aload_n 0, 1) := by decide +kernel
theorem dX9_doFold_10 : decode cX9_doFold 10 = .ok (.invokespecial 21, 3) := by decide +kernel
theorem dX9_doFold_13 : decode cX9_doFold 13 = .ok (.aload_n 0, 1) := by decide +kernel
theorem dX9_doFold_14 : decode cX9_doFold 14 = .ok (.invokespecial 21, 3) := by decide +kernel
theorem dX9_doFold_17 : decode cX9_doFold 17 = .ok (.return_, 1) := by decide +kernel
theorem dX9_doBake_0 : decode cX9_doBake 0 = .ok (.aload_n 0, 1) := by decide +kernel
theorem dX9_doBake_1 : decode cX9_doBake 1 = .ok (.getfield 9, 3) := by decide +kernel
theorem dX9_doBake_4 : decode cX9_doBake 4 = .ok (.iconst 3, 1) := by decide +kernel
theorem dX9_doBake_5 : decode cX9_doBake 5 = .ok (.iconst 3, 1) := by decide +kernel
theorem dX9_doBake_6 : decode cX9_doBake 6 = .ok (.invokevirtual 15, 3) := by decide +kernel
theorem dX9_doBake_9 : decode cX9_doBake 9 = .ok (.aload_n 0, 1) := by decide +kernel
theorem dX9_doBake_10 : decode cX9_doBake 10 = .ok (.iload_n 1, 1) := by decide +kernel
theorem dX9_doBake_11 : decode cX9_doBake 11 = .ok (.invokespecial 25, 3) := by decide +kernel
theorem dX9_doBake_14 : decode cX9_doBake 14 = .ok (.ifCond .eq 16, 3) := by decide +kernel
theorem dX9_doBake_17 : decode cX9_doBake 17 = .ok (.aload_n 0, 1) := by decide +kernel
theorem dX9_doBake_18 : decode cX9_doBake 18 = .ok (.getfield 29, 3) := by decide +kernel
theorem dX9_doBake_21 : decode cX9_doBake 21 = .ok (.bipush 60, 2) := by decide +kernel
theorem dX9_doBake_23 : decode cX9_doBake 23 = .ok (.if_icmp .gt 7, 3) := by decide +kernel
theorem dX9_doBake_26 : decode cX9_doBake 26 = .ok (.iconst 1, 1) := by decide +kernel
theorem dX9_doBake_27 : decode cX9_doBake 27 = .ok (.goto 4, 3) := by decide +kernel
theorem dX9_doBake_30 : decode cX9_doBake 30 = .ok (.iconst 0, 1) := by decide +kernel
theorem dX9_doBake_31 : decode cX9_doBake 31 = .ok (.ireturn, 1) := by decide +kernel
end
section
theorem dX10_init_0 : decode cX10_init 0 = .ok (.aload_n 0, 1) := by decide +kernel
theorem dX10_init_1 : decode cX10_init 1 = .ok (.invokespecial 1, 3) := by decide +kernel
theorem dX10_init_4 : decode cX10_init 4 = .ok (.aload_n 0, 1) := by decide +kernel
theorem dX10_init_5 : decode cX10_init 5 = .ok (.new 7, 3) := by decide +kernel
theorem dX10_init_8 : decode cX10_init 8 = .ok (.dup, 1) := by decide +kernel
theorem dX10_init_9 : decode cX10_init 9 = .ok (.invokespecial 9, 3) := by decide +kernel
theorem dX10_init_12 : decode cX10_init 12 = .ok (.putfield 10, 3) := by decide +kernel
theorem dX10_init_15 : decode cX10_init 15 = .ok (.aload_n 0, 1) := by decide +kernel
theorem dX10_init_16 : decode cX10_init 16 = .ok (.iconst 4, 1) := by decide +kernel
theorem dX10_init_17 : decode cX10_init 17 = .ok (.anewarray 16, 3) := by decide +kernel
theorem dX10_init_20 : decode cX10_init 20 = .ok (.putfield 18, 3) := by decide +kernel
theorem dX10_init_23 : decode cX10_init 23 = .ok (.iconst 0, 1) := by decide +kernel
theorem dX10_init_24 : decode cX10_init 24 = .ok (.istore_n 1, 1) := by decide +kernel
theorem dX10_init_25 : decode cX10_init 25 = .ok (.iload_n 1, 1) := by decide +kernel
theorem dX10_init_26 : decode cX10_init 26 = .ok (.iconst 4, 1) := by decide +kernel
theorem dX10_init_27 : decode cX10_init 27 = .ok (.if_icmp .ge 22, 3) := by decide +kernel
theorem dX10_init_30 : decode cX10_init 30 = .ok (.aload_n 0, 1) := by decide +kernel
theorem dX10_init_31 : decode cX10_init 31 = .ok (.getfield 18, 3) := by decide +kernel
theorem dX10_init_34 : decode cX10_init 34 = .ok (.iload_n 1, 1) := by decide +kernel
theorem dX10_init_35 : decode cX10_init 35 = .ok (.new 16, 3) := by decide +kernel
theorem dX10_init_38 : decode cX10_init 38 = .ok (.dup, 1) := by decide +kernel
theorem dX10_init_39 : decode cX10_init 39 = .ok (.invokespecial 22, 3) := by decide +kernel
theorem dX10_init_42 : decode cX10_init 42 = .ok (.aastore, 1) := by decide +kernel
theorem dX10_init_43 : decode cX10_init 43 = .ok (.iinc 1 1, 3) := by decide +kernel
theorem dX10_init_46 : decode cX10_init 46 = .ok (.goto (-21), 3) := by decide +kernel
theorem dX10_init_49 : decode cX10_init 49 = .ok (.aload_n 0, 1) := by decide +kernel
theorem dX10_init_50 : decode cX10_init 50 = .ok (.bipush 20, 2) := by decide +kernel
theorem dX10_init_52 : decode cX10_init 52 = .ok (.anewarray 23, 3) := by decide +kernel
theorem dX10_init_55 : decode cX10_init 55 = .ok (.putfield 25, 3) := by decide +kernel
theorem dX10_init_58 : decode cX10_init 58 = .ok (.aload_n 0, 1) := by decide +kernel
theorem dX10_init_59 : decode cX10_init 59 = .ok (.iconst 0, 1) := by decide +kernel
theorem dX10_init_60 : decode cX10_init 60 = .ok (.putfield 29, 3) := by decide +kernel
theorem dX10_init_63 : decode cX10_init 63 = .ok (.return_, 1) := by decide +kernel
theorem dX10_loaf_0 : decode cX10_loaf 0 = .ok (.iload_n 1, 1) := by decide +kernel
theorem dX10_loaf_1 : decode cX10_loaf 1 = .ok (.iconst 0, 1) := by decide +kernel
theorem dX10_loaf_2 : decode cX10_loaf 2 = .ok (.bipush 7, 2) := by decide +kernel
theorem dX10_loaf_4 : decode cX10_loaf 4 = .ok (.invokestatic 33, 3) := by decide +kernel
theorem dX10_loaf_7 : decode cX10_loaf 7 = .ok (.ifCond .eq 14, 3) := by decide +kernel
theorem dX10_loaf_10 : decode cX10_loaf 10 = .ok (.iload_n 2, 1) := by decide +kernel
theorem dX10_loaf_11 : decode cX10_loaf 11 = .ok (.iconst 1, 1) := by decide +kernel
theorem dX10_loaf_12 : decode cX10_loaf 12 = .ok (.sipush 2000, 3) := by decide +kernel
theorem dX10_loaf_15 : decode cX10_loaf 15 = .ok (.invokestatic 33, 3) := by decide +kernel
theorem dX10_loaf_18 : decode cX10_loaf 18 = .ok (.ifCond .ne 6, 3) := by decide +kernel
theorem dX10_loaf_21 : decode cX10_loaf 21 = .ok (.bipush (-102), 2) := by decide +kernel
theorem dX10_loaf_23 : decode cX10_loaf 23 = .ok (.ireturn, 1) := by decide +kernel
theorem dX10_loaf_24 : decode cX10_loaf 24 = .ok (.aload_n 0, 1) := by decide +kernel
theorem dX10_loaf_25 : decode cX10_loaf 25 = .ok (.getfield 29, 3) := by decide +kernel
theorem dX10_loaf_28 : decode cX10_loaf 28 = .ok (.istore_n 3, 1) := by decide +kernel
theorem dX10_loaf_29 : decode cX10_loaf 29 = .ok (.iload_n 3, 1) := by decide +kernel
theorem dX10_loaf_30 : decode cX10_loaf 30 = .ok (.bipush 20, 2) := by decide +kernel
theorem dX10_loaf_32 : decode cX10_loaf 32 = .ok (.if_icmp .lt 6, 3) := by decide +kernel
theorem dX10_loaf_35 : decode cX10_loaf 35 = .ok (.bipush (-104), 2) := by decide +kernel
theorem dX10_loaf_37 : decode cX10_loaf 37 = .ok (.ireturn, 1) := by decide +kernel
theorem dX10_loaf_38 : decode cX10_loaf 38 = .ok (.aload_n 0, 1) := by decide +kernel
theorem dX10_loaf_39 : decode cX10_loaf 39 = .ok (.getfield 25, 3) := by decide +kernel
theorem dX10_loaf_42 : decode cX10_loaf 42 = .ok (.iload_n 3, 1) := by decide +kernel
theorem dX10_loaf_43 : decode cX10_loaf 43 = .ok (.aload_n 0, 1) := by decide +kernel
theorem dX10_loaf_44 : decode cX10_loaf 44 = .ok (.iload_n 1, 1) := by decide +kernel
theorem dX10_loaf_45 : decode cX10_loaf 45 = .ok (.iload_n 3, 1) := by decide +kernel
theorem dX10_loaf_46 : decode cX10_loaf 46 = .ok (.iload_n 2, 1) := by decide +kernel
theorem dX10_loaf_47 : decode cX10_loaf 47 = .ok (.invokevirtual 37, 3) := by decide +kernel
theorem dX10_loaf_50 : decode cX10_loaf 50 = .ok (.aastore, 1) := by decide +kernel
theorem dX10_loaf_51 : decode cX10_loaf 51 = .ok (.aload_n 0, 1) := by decide +kernel
theorem dX10_loaf_52 : decode cX10_loaf 52 = .ok (.iload_n 3, 1) := by decide +kernel
theorem dX10_loaf_53 : decode cX10_loaf 53 = .ok (.iconst 1, 1) := by decide +kernel
theorem dX10_loaf_54 : decode cX10_loaf 54 = .ok (.iadd, 1) := by decide +kernel
theorem dX10_loaf_55 : decode cX10_loaf 55 = .ok (.putfield 29, 3) := by decide +kernel
theorem dX10_loaf_58 : decode cX10_loaf 58 = .ok (.iload_n 3, 1) := by decide +kernel
theorem dX10_loaf_59 : decode cX10_loaf 59 = .ok (.ireturn, 1) := by decide +kernel
theorem dX10_shelf_0 : decode cX10_shelf 0 = .ok (.aload_n 0, 1) := by decide +kernel
theorem dX10_shelf_1 : decode cX10_shelf 1 = .ok (.iload_n 1, 1) := by decide +kernel
theorem dX10_shelf_2 : decode cX10_shelf 2 = .ok (.invokevirtual 41, 3) := by decide +kernel
theorem dX10_shelf_5 : decode cX10_shelf 5 = .ok (.astore_n 3, 1) := by decide +kernel
theorem dX10_shelf_6 : decode cX10_shelf 6 = .ok (.aload_n 3, 1) := by decide +kernel
theorem dX10_shelf_7 : decode cX10_shelf 7 = .ok (.ifnull 9, 3) := by decide +kernel
theorem dX10_shelf_10 : decode cX10_shelf 10 = .ok (.iload_n 2, 1) := by decide +kernel
theorem dX10_shelf_11 : decode cX10_shelf 11 = .ok (.bipush 8, 2) := by decide +kernel
theorem dX10_shelf_13 : decode cX10_shelf 13 = .ok (.if_icmp .le 6, 3) := by decide +kernel
theorem dX10_shelf_16 : decode cX10_shelf 16 = .ok (.bipush (-102), 2) := by decide +kernel
theorem dX10_shelf_18 : decode cX10_shelf 18 = .ok (.ireturn, 1) := by decide +kernel
theorem dX10_shelf_19 : decode cX10_shelf 19 = .ok (.iload_n 2, 1) := by decide +kernel
theorem dX10_shelf_20 : decode cX10_shelf 20 = .ok (.ifCond .ge 13, 3) := by decide +kernel
theorem dX10_shelf_23 : decode cX10_shelf 23 = .ok (.new 45, 3) := by decide +kernel
theorem dX10_shelf_26 : decode cX10_shelf 26 = .ok (.dup, 1) := by decide +kernel
theorem dX10_shelf_27 : decode cX10_shelf 27 = .ok (.ldc 47, 2) := by decide +kernel
theorem dX10_shelf_29 : decode cX10_shelf 29 = .ok (.invokespecial 49, 3) := by decide +kernel
theorem dX10_shelf_32 : decode cX10_shelf 32 = .ok (.athrow, 1) := by decide +kernel
theorem dX10_shelf_33 : decode cX10_shelf 33 = .ok (.aload_n 3, 1) := by decide +kernel
theorem dX10_shelf_34 : decode cX10_shelf 34 = .ok (.iload_n 2, 1) := by decide +kernel
theorem dX10_shelf_35 : decode cX10_shelf 35 = .ok (.invokevirtual 52, 3) := by decide +kernel
theorem dX10_shelf_38 : decode cX10_shelf 38 = .ok (.iload_n 2, 1) := by decide +kernel
theorem dX10_shelf_39 : decode cX10_shelf 39 = .ok (.ireturn, 1) := by decide +kernel
theorem dX10_out_0 : decode cX10_out 0 = .ok (.aload_n 0, 1) := by decide +kernel
theorem dX10_out_1 : decode cX10_out 1 = .ok (.iload_n 1, 1) := by decide +kernel
theorem dX10_out_2 : decode cX10_out 2 = .ok (.invokevirtual 41, 3) := by decide +kernel
theorem dX10_out_5 : decode cX10_out 5 = .ok (.astore_n 2, 1) := by decide +kernel
theorem dX10_out_6 : decode cX10_out 6 = .ok (.aload_n 2, 1) := by decide +kernel
theorem dX10_out_7 : decode cX10_out 7 = .ok (.ifnonnull 6, 3) := by decide +kernel
theorem dX10_out_10 : decode cX10_out 10 = .ok (.bipush (-102), 2) := by decide +kernel
theorem dX10_out_12 : decode cX10_out 12 = .ok (.ireturn, 1) := by decide +kernel
theorem dX10_out_13 : decode cX10_out 13 = .ok (.aload_n 2, 1) := by decide +kernel
theorem dX10_out_14 : decode cX10_out 14 = .ok (.invokevirtual 56, 3) := by decide +kernel
theorem dX10_out_17 : decode cX10_out 17 = .ok (.ifCond .eq 5, 3) := by decide +kernel
theorem dX10_out_20 : decode cX10_out 20 = .ok (.iconst 0, 1) := by decide +kernel
theorem dX10_out_21 : decode cX10_out 21 = .ok (.ireturn, 1) := by decide +kernel
theorem dX10_out_22 : decode cX10_out 22 = .ok (.aload_n 2, 1) := by decide +kernel
theorem dX10_out_23 : decode cX10_out 23 = .ok (.invokevirtual 60, 3) := by decide +kernel
theorem dX10_out_26 : decode cX10_out 26 = .ok (.iconst 1, 1) := by decide +kernel
theorem dX10_out_27 : decode cX10_out 27 = .ok (.ireturn, 1) := by decide +kernel
theorem dX10_rest_0 : decode cX10_rest 0 = .ok (.aload_n 0, 1) := by decide +kernel
theorem dX10_rest_1 : decode cX10_rest 1 = .ok (.iload_n 1, 1) := by decide +kernel
theorem dX10_rest_2 : decode cX10_rest 2 = .ok (.invokevirtual 63, 3) := by decide +kernel
theorem dX10_rest_5 : decode cX10_rest 5 = .ok (.astore_n 3, 1) := by decide +kernel
theorem dX10_rest_6 : decode cX10_rest 6 = .ok (.aload_n 3, 1) := by decide +kernel
theorem dX10_rest_7 : decode cX10_rest 7 = .ok (.ifnonnull 6, 3) := by decide +kernel
theorem dX10_rest_10 : decode cX10_rest 10 = .ok (.bipush (-101), 2) := by decide +kernel
theorem dX10_rest_12 : decode cX10_rest 12 = .ok (.ireturn, 1) := by decide +kernel
theorem dX10_rest_13 : decode cX10_rest 13 = .ok (.iload_n 2, 1) := by decide +kernel
theorem dX10_rest_14 : decode cX10_rest 14 = .ok (.iconst 0, 1) := by decide +kernel
theorem dX10_rest_15 : decode cX10_rest 15 = .ok (.sipush 600, 3) := by decide +kernel
theorem dX10_rest_18 : decode cX10_rest 18 = .ok (.invokestatic 33, 3) := by decide +kernel
theorem dX10_rest_21 : decode cX10_rest 21 = .ok (.ifCond .eq 11, 3) := by decide +kernel
theorem dX10_rest_24 : decode cX10_rest 24 = .ok (.aload_n 3, 1) := by decide +kernel
theorem dX10_rest_25 : decode cX10_rest 25 = .ok (.iload_n 2, 1) := by decide +kernel
theorem dX10_rest_26 : decode cX10_rest 26 = .ok (.invokevirtual 67, 3) := by decide +kernel
theorem dX10_rest_29 : decode cX10_rest 29 = .ok (.goto 5, 3) := by decide +kernel
theorem dX10_rest_32 : decode cX10_rest 32 = .ok (.bipush (-102), 2) := by decide +kernel
theorem dX10_rest_34 : decode cX10_rest 34 = .ok (.ireturn, 1) := by decide +kernel
theorem dX10_fold_0 : decode cX10_fold 0 = .ok (.aload_n 0, 1) := by decide +kernel
theorem dX10_fold_1 : decode cX10_fold 1 = .ok (.iload_n 1, 1) := by decide +kernel
theorem dX10_fold_2 : decode cX10_fold 2 = .ok (.invokevirtual 63, 3) := by decide +kernel
theorem dX10_fold_5 : decode cX10_fold 5 = .ok (.astore_n 2, 1) := by decide +kernel
theorem dX10_fold_6 : decode cX10_fold 6 = .ok (.aload_n 2, 1) := by decide +kernel
theorem dX10_fold_7 : decode cX10_fold 7 = .ok (.ifnonnull 6, 3) := by decide +kernel
theorem dX10_fold_10 : decode cX10_fold 10 = .ok (.bipush (-101), 2) := by decide +kernel
theorem dX10_fold_12 : decode cX10_fold 12 = .ok (.ireturn, 1) := by decide +kernel
theorem dX10_fold_13 : decode cX10_fold 13 = .ok (.aload_n 2, 1) := by decide +kernel
theorem dX10_fold_14 : decode cX10_fold 14 = .ok (.invokevirtual 71, 3) := by decide +kernel
theorem dX10_fold_17 : decode cX10_fold 17 = .ok (.aload_n 2, 1) := by decide +kernel
theorem dX10_fold_18 : decode cX10_fold 18 = .ok (.getfield 74, 3) := by decide +kernel
theorem dX10_fold_21 : decode cX10_fold 21 = .ok (.ireturn, 1) := by decide +kernel
theorem dX10_lay_0 : decode cX10_lay 0 = .ok (.aload_n 0, 1) := by decide +kernel
theorem dX10_lay_1 : decode cX10_lay 1 = .ok (.iload_n 1, 1) := by decide +kernel
theorem dX10_lay_2 : decode cX10_lay 2 = .ok (.invokevirtual 63, 3) := by decide +kernel
theorem dX10_lay_5 : decode cX10_lay 5 = .ok (.astore 4, 2) := by decide +kernel
theorem dX10_lay_7 : decode cX10_lay 7 = .ok (.aload 4, 2) := by decide +kernel
theorem dX10_lay_9 : decode cX10_lay 9 = .ok (.ifnonnull 6, 3) := by decide +kernel
theorem dX10_lay_12 : decode cX10_lay 12 = .ok (.bipush (-101), 2) := by decide +kernel
theorem dX10_lay_14 : decode cX10_lay 14 = .ok (.ireturn, 1) := by decide +kernel
theorem dX10_lay_15 : decode cX10_lay 15 = .ok (.aload_n 0, 1) := by decide +kernel
theorem dX10_lay_16 : decode cX10_lay 16 = .ok (.iload_n 2, 1) := by decide +kernel
theorem dX10_lay_17 : decode cX10_lay 17 = .ok (.invokevirtual 41, 3) := by decide +kernel
theorem dX10_lay_20 : decode cX10_lay 20 = .ok (.astore 5, 2) := by decide +kernel
theorem dX10_lay_22 : decode cX10_lay 22 = .ok (.aload 5, 2) := by decide +kernel
theorem dX10_lay_24 : decode cX10_lay 24 = .ok (.ifnonnull 6, 3) := by decide +kernel
theorem dX10_lay_27 : decode cX10_lay 27 = .ok (.bipush (-102), 2) := by decide +kernel
theorem dX10_lay_29 : decode cX10_lay 29 = .ok (.ireturn, 1) := by decide +kernel
theorem dX10_lay_30 : decode cX10_lay 30 = .ok (.aload 4, 2) := by decide +kernel
theorem dX10_lay_32 : decode cX10_lay 32 = .ok (.aload 5, 2) := by decide +kernel
theorem dX10_lay_34 : decode cX10_lay 34 = .ok (.iload_n 3, 1) := by decide +kernel
theorem dX10_lay_35 : decode cX10_lay 35 = .ok (.invokevirtual 77, 3) := by decide +kernel
theorem dX10_lay_38 : decode cX10_lay 38 = .ok (.aload_n 0, 1) := by decide +kernel
theorem dX10_lay_39 : decode cX10_lay 39 = .ok (.iload_n 1, 1) := by decide +kernel
theorem dX10_lay_40 : decode cX10_lay 40 = .ok (.invokevirtual 81, 3) := by decide +kernel
theorem dX10_lay_43 : decode cX10_lay 43 = .ok (.ireturn, 1) := by decide +kernel
theorem dX10_bake_0 : decode cX10_bake 0 = .ok (.aload_n 0, 1) := by decide +kernel
theorem dX10_bake_1 : decode cX10_bake 1 = .ok (.iload_n 1, 1) := by decide +kernel
theorem dX10_bake_2 : decode cX10_bake 2 = .ok (.invokevirtual 63, 3) := by decide +kernel
theorem dX10_bake_5 : decode cX10_bake 5 = .ok (.astore_n 3, 1) := by decide +kernel
theorem dX10_bake_6 : decode cX10_bake 6 = .ok (.aload_n 3, 1) := by decide +kernel
theorem dX10_bake_7 : decode cX10_bake 7 = .ok (.ifnonnull 6, 3) := by decide +kernel
theorem dX10_bake_10 : decode cX10_bake 10 = .ok (.bipush (-101), 2) := by decide +kernel
theorem dX10_bake_12 : decode cX10_bake 12 = .ok (.ireturn, 1) := by decide +kernel
theorem dX10_bake_13 : decode cX10_bake 13 = .ok (.iload_n 2, 1) := by decide +kernel
theorem dX10_bake_14 : decode cX10_bake 14 = .ok (.iconst 0, 1) := by decide +kernel
theorem dX10_bake_15 : decode cX10_bake 15 = .ok (.sipush 400, 3) := by decide +kernel
theorem dX10_bake_18 : decode cX10_bake 18 = .ok (.invokestatic 33, 3) := by decide +kernel
theorem dX10_bake_21 : decode cX10_bake 21 = .ok (.ifCond .ne 6, 3) := by decide +kernel
theorem dX10_bake_24 : decode cX10_bake 24 = .ok (.bipush (-102), 2) := by decide +kernel
theorem dX10_bake_26 : decode cX10_bake 26 = .ok (.ireturn, 1) := by decide +kernel
theorem dX10_bake_27 : decode cX10_bake 27 = .ok (.aload_n 3, 1) := by decide +kernel
theorem dX10_bake_28 : decode cX10_bake 28 = .ok (.iload_n 2, 1) := by decide +kernel
theorem dX10_bake_29 : decode cX10_bake 29 = .ok (.invokevirtual 84, 3) := by decide +kernel
theorem dX10_bake_32 : decode cX10_bake 32 = .ok (.ifCond .eq 7, 3) := by decide +kernel
theorem dX10_bake_35 : decode cX10_bake 35 = .ok (.iconst 1, 1) := by decide +kernel
theorem dX10_bake_36 : decode cX10_bake 36 = .ok (.goto 4, 3) := by decide +kernel
theorem dX10_bake_39 : decode cX10_bake 39 = .ok (.iconst 0, 1) := by decide +kernel
theorem dX10_bake_40 : decode cX10_bake 40 = .ok (.ireturn, 1) := by decide +kernel
theorem dX10_worth_0 : decode cX10_worth 0 = .ok (.aload_n 0, 1) := by decide +kernel
theorem dX10_worth_1 : decode cX10_worth 1 = .ok (.iload_n 1, 1) := by decide +kernel
theorem dX10_worth_2 : decode cX10_worth 2 = .ok (.invokevirtual 63, 3) := by decide +kernel
theorem dX10_worth_5 : decode cX10_worth 5 = .ok (.astore_n 2, 1) := by decide +kernel
theorem dX10_worth_6 : decode cX10_worth 6 = .ok (.aload_n 2, 1) := by decide +kernel
theorem dX10_worth_7 : decode cX10_worth 7 = .ok (.ifnonnull 8, 3) := by decide +kernel
theorem dX10_worth_10 : decode cX10_worth 10 = .ok (.bipush (-101), 2) := by decide +kernel
theorem dX10_worth_12 : decode cX10_worth 12 = .ok (.goto 7, 3) := by decide +kernel
theorem dX10_worth_15 : decode cX10_worth 15 = .ok (.aload_n 2, 1) := by decide +kernel
theorem dX10_worth_16 : decode cX10_worth 16 = .ok (.invokevirtual 88, 3) := by decide +kernel
theorem dX10_worth_19 : decode cX10_worth 19 = .ok (.ireturn, 1) := by decide +kernel
theorem dX10_cost_0 : decode cX10_cost 0 = .ok (.aload_n 0, 1) := by decide +kernel
theorem dX10_cost_1 : decode cX10_cost 1 = .ok (.iload_n 1, 1) := by decide +kernel
theorem dX10_cost_2 : decode cX10_cost 2 = .ok (.invokevirtual 63, 3) := by decide +kernel
theorem dX10_cost_5 : decode cX10_cost 5 = .ok (.astore_n 2, 1) := by decide +kernel
theorem dX10_cost_6 : decode cX10_cost 6 = .ok (.aload_n 2, 1) := by decide +kernel
theorem dX10_cost_7 : decode cX10_cost 7 = .ok (.ifnonnull 6, 3) := by decide +kernel
theorem dX10_cost_10 : decode cX10_cost 10 = .ok (.bipush (-101), 2) := by decide +kernel
theorem dX10_cost_12 : decode cX10_cost 12 = .ok (.ireturn, 1) := by decide +kernel
theorem dX10_cost_13 : decode cX10_cost 13 = .ok (.aload_n 2, 1) := by decide +kernel
theorem dX10_cost_14 : decode cX10_cost 14 = .ok (.invokestatic 92, 3) := by decide +kernel
theorem dX10_cost_17 : decode cX10_cost 17 = .ok (.ifCond .eq 10, 3) := by decide +kernel
theorem dX10_cost_20 : decode cX10_cost 20 = .ok (.aload_n 2, 1) := by decide +kernel
theorem dX10_cost_21 : decode cX10_cost 21 = .ok (.invokestatic 96, 3) := by decide +kernel
theorem dX10_cost_24 : decode cX10_cost 24 = .ok (.goto 5, 3) := by decide +kernel
theorem dX10_cost_27 : decode cX10_cost 27 = .ok (.bipush (-103), 2) := by decide +kernel
theorem dX10_cost_29 : decode cX10_cost 29 = .ok (.ireturn, 1) := by decide +kernel
theorem dX10_change_0 : decode cX10_change 0 = .ok (.aload_n 0, 1) := by decide +kernel
theorem dX10_change_1 : decode cX10_change 1 = .ok (.iload_n 1, 1) := by decide +kernel
theorem dX10_change_2 : decode cX10_change 2 = .ok (.invokevirtual 63, 3) := by decide +kernel
theorem dX10_change_5 : decode cX10_change 5 = .ok (.astore_n 3, 1) := by decide +kernel
theorem dX10_change_6 : decode cX10_change 6 = .ok (.aload_n 3, 1) := by decide +kernel
theorem dX10_change_7 : decode cX10_change 7 = .ok (.ifnonnull 6, 3) := by decide +kernel
theorem dX10_change_10 : decode cX10_change 10 = .ok (.bipush (-101), 2) := by decide +kernel
theorem dX10_change_12 : decode cX10_change 12 = .ok (.ireturn, 1) := by decide +kernel
theorem dX10_change_13 : decode cX10_change 13 = .ok (.iload_n 2, 1) := by decide +kernel
theorem dX10_change_14 : decode cX10_change 14 = .ok (.iconst 0, 1) := by decide +kernel
theorem dX10_change_15 : decode cX10_change 15 = .ok (.ldc 100, 2) := by decide +kernel
theorem dX10_change_17 : decode cX10_change 17 = .ok (.invokestatic 33, 3) := by decide +kernel
theorem dX10_change_20 : decode cX10_change 20 = .ok (.ifCond .ne 6, 3) := by decide +kernel
theorem dX10_change_23 : decode cX10_change 23 = .ok (.bipush (-102), 2) := by decide +kernel
theorem dX10_change_25 : decode cX10_change 25 = .ok (.ireturn, 1) := by decide +kernel
theorem dX10_change_26 : decode cX10_change 26 = .ok (.aload_n 3, 1) := by decide +kernel
theorem dX10_change_27 : decode cX10_change 27 = .ok (.invokestatic 92, 3) := by decide +kernel
theorem dX10_change_30 : decode cX10_change 30 = .ok (.ifCond .ne 6, 3) := by decide +kernel
theorem dX10_change_33 : decode cX10_change 33 = .ok (.bipush (-103), 2) := by decide +kernel
theorem dX10_change_35 : decode cX10_change 35 = .ok (.ireturn, 1) := by decide +kernel
theorem dX10_change_36 : decode cX10_change 36 = .ok (.iload_n 2, 1) := by decide +kernel
theorem dX10_change_37 : decode cX10_change 37 = .ok (.aload_n 3, 1) := by decide +kernel
theorem dX10_change_38 : decode cX10_change 38 = .ok (.invokestatic 96, 3) := by decide +kernel
theorem dX10_change_41 : decode cX10_change 41 = .ok (.isub, 1) := by decide +kernel
theorem dX10_change_42 : decode cX10_change 42 = .ok (.istore 4, 2) := by decide +kernel
theorem dX10_change_44 : decode cX10_change 44 = .ok (.iload 4, 2) := by decide +kernel
theorem dX10_change_46 : decode cX10_change 46 = .ok (.ifCond .ge 7, 3) := by decide +kernel
theorem dX10_change_49 : decode cX10_change 49 = .ok (.iconst (-1), 1) := by decide +kernel
theorem dX10_change_50 : decode cX10_change 50 = .ok (.goto 5, 3) := by decide +kernel
theorem dX10_change_53 : decode cX10_change 53 = .ok (.iload 4, 2) := by decide +kernel
theorem dX10_change_55 : decode cX10_change 55 = .ok (.ireturn, 1) := by decide +kernel
theorem dX10_fire_0 : decode cX10_fire 0 = .ok (.iload_n 1, 1) := by decide +kernel
theorem dX10_fire_1 : decode cX10_fire 1 = .ok (.iconst 0, 1) := by decide +kernel
theorem dX10_fire_2 : decode cX10_fire 2 = .ok (.sipush 400, 3) := by decide +kernel
theorem dX10_fire_5 : decode cX10_fire 5 = .ok (.invokestatic 33, 3) := by decide +kernel
theorem dX10_fire_8 : decode cX10_fire 8 = .ok (.ifCond .ne 6, 3) := by decide +kernel
theorem dX10_fire_11 : decode cX10_fire 11 = .ok (.bipush (-102), 2) := by decide +kernel
theorem dX10_fire_13 : decode cX10_fire 13 = .ok (.ireturn, 1) := by decide +kernel
theorem dX10_fire_14 : decode cX10_fire 14 = .ok (.iconst 0, 1) := by decide +kernel
theorem dX10_fire_15 : decode cX10_fire 15 = .ok (.istore_n 2, 1) := by decide +kernel
theorem dX10_fire_16 : decode cX10_fire 16 = .ok (.iconst 0, 1) := by decide +kernel
theorem dX10_fire_17 : decode cX10_fire 17 = .ok (.istore_n 3, 1) := by decide +kernel
theorem dX10_fire_18 : decode cX10_fire 18 = .ok (.iload_n 3, 1) := by decide +kernel
theorem dX10_fire_19 : decode cX10_fire 19 = .ok (.iconst 4, 1) := by decide +kernel
theorem dX10_fire_20 : decode cX10_fire 20 = .ok (.if_icmp .ge 23, 3) := by decide +kernel
theorem dX10_fire_23 : decode cX10_fire 23 = .ok (.iload_n 2, 1) := by decide +kernel
theorem dX10_fire_24 : decode cX10_fire 24 = .ok (.aload_n 0, 1) := by decide +kernel
theorem dX10_fire_25 : decode cX10_fire 25 = .ok (.aload_n 0, 1) := by decide +kernel
theorem dX10_fire_26 : decode cX10_fire 26 = .ok (.getfield 18, 3) := by decide +kernel
theorem dX10_fire_29 : decode cX10_fire 29 = .ok (.iload_n 3, 1) := by decide +kernel
theorem dX10_fire_30 : decode cX10_fire 30 = .ok (.aaload, 1) := by decide +kernel
theorem dX10_fire_31 : decode cX10_fire 31 = .ok (.iload_n 1, 1) := by decide +kernel
theorem dX10_fire_32 : decode cX10_fire 32 = .ok (.invokevirtual 101, 3) := by decide +kernel
theorem dX10_fire_35 : decode cX10_fire 35 = .ok (.iadd, 1) := by decide +kernel
theorem dX10_fire_36 : decode cX10_fire 36 = .ok (.istore_n 2, 1) := by decide +kernel
theorem dX10_fire_37 : decode cX10_fire 37 = .ok (.iinc 3 1, 3) := by decide +kernel
theorem dX10_fire_40 : decode cX10_fire 40 = .ok (.goto (-22), 3) := by decide +kernel
theorem dX10_fire_43 : decode cX10_fire 43 = .ok (.iload_n 2, 1) := by decide +kernel
theorem dX10_fire_44 : decode cX10_fire 44 = .ok (.ireturn, 1) := by decide +kernel
theorem dX10_night_0 : decode cX10_night 0 = .ok (.iload_n 1, 1) := by decide +kernel
theorem dX10_night_1 : decode cX10_night 1 = .ok (.iconst 0, 1) := by decide +kernel
theorem dX10_night_2 : decode cX10_night 2 = .ok (.sipush 600, 3) := by decide +kernel
theorem dX10_night_5 : decode cX10_night 5 = .ok (.invokestatic 33, 3) := by decide +kernel
theorem dX10_night_8 : decode cX10_night 8 = .ok (.ifCond .ne 6, 3) := by decide +kernel
theorem dX10_night_11 : decode cX10_night 11 = .ok (.bipush (-102), 2) := by decide +kernel
theorem dX10_night_13 : decode cX10_night 13 = .ok (.ireturn, 1) := by decide +kernel
theorem dX10_night_14 : decode cX10_night 14 = .ok (.iconst 0, 1) := by decide +kernel
theorem dX10_night_15 : decode cX10_night 15 = .ok (.istore_n 2, 1) := by decide +kernel
theorem dX10_night_16 : decode cX10_night 16 = .ok (.iconst 0, 1) := by decide +kernel
theorem dX10_night_17 : decode cX10_night 17 = .ok (.istore_n 3, 1) := by decide +kernel
theorem dX10_night_18 : decode cX10_night 18 = .ok (.iload_n 3, 1) := by decide +kernel
theorem dX10_night_19 : decode cX10_night 19 = .ok (.bipush 20, 2) := by decide +kernel
theorem dX10_night_21 : decode cX10_night 21 = .ok (.if_icmp .ge 33, 3) := by decide +kernel
theorem dX10_night_24 : decode cX10_night 24 = .ok (.aload_n 0, 1) := by decide +kernel
theorem dX10_night_25 : decode cX10_night 25 = .ok (.iload_n 3, 1) := by decide +kernel
theorem dX10_night_26 : decode cX10_night 26 = .ok (.invokevirtual 63, 3) := by decide +kernel
theorem dX10_night_29 : decode cX10_night 29 = .ok (.astore 4, 2) := by decide +kernel
theorem dX10_night_31 : decode cX10_night 31 = .ok (.aload 4, 2) := by decide +kernel
theorem dX10_night_33 : decode cX10_night 33 = .ok (.ifnull 15, 3) := by decide +kernel
theorem dX10_night_36 : decode cX10_night 36 = .ok (.aload 4, 2) := by decide +kernel
theorem dX10_night_38 : decode cX10_night 38 = .ok (.iload_n 1, 1) := by decide +kernel
theorem dX10_night_39 : decode cX10_night 39 = .ok (.invokestatic 105, 3) := by decide +kernel
theorem dX10_night_42 : decode cX10_night 42 = .ok (.ifCond .eq 6, 3) := by decide +kernel
theorem dX10_night_45 : decode cX10_night 45 = .ok (.iinc 2 1, 3) := by decide +kernel
theorem dX10_night_48 : decode cX10_night 48 = .ok (.iinc 3 1, 3) := by decide +kernel
theorem dX10_night_51 : decode cX10_night 51 = .ok (.goto (-33), 3) := by decide +kernel
theorem dX10_night_54 : decode cX10_night 54 = .ok (.iload_n 2, 1) := by decide +kernel
theorem dX10_night_55 : decode cX10_night 55 = .ok (.ireturn, 1) := by decide +kernel
theorem dX10_at_0 : decode cX10_at 0 = .ok (.aload_n 0, 1) := by decide +kernel
theorem dX10_at_1 : decode cX10_at 1 = .ok (.iload_n 1, 1) := by decide +kernel
theorem dX10_at_2 : decode cX10_at 2 = .ok (.invokevirtual 41, 3) := by decide +kernel
theorem dX10_at_5 : decode cX10_at 5 = .ok (.astore_n 3, 1) := by decide +kernel
theorem dX10_at_6 : decode cX10_at 6 = .ok (.aload_n 3, 1) := by decide +kernel
theorem dX10_at_7 : decode cX10_at 7 = .ok (.ifnonnull 8, 3) := by decide +kernel
theorem dX10_at_10 : decode cX10_at 10 = .ok (.bipush (-102), 2) := by decide +kernel
theorem dX10_at_12 : decode cX10_at 12 = .ok (.goto 8, 3) := by decide +kernel
theorem dX10_at_15 : decode cX10_at 15 = .ok (.aload_n 3, 1) := by decide +kernel
theorem dX10_at_16 : decode cX10_at 16 = .ok (.iload_n 2, 1) := by decide +kernel
theorem dX10_at_17 : decode cX10_at 17 = .ok (.invokevirtual 109, 3) := by decide +kernel
theorem dX10_at_20 : decode cX10_at 20 = .ok (.ireturn, 1) := by decide +kernel
theorem dX10_places_0 : decode cX10_places 0 = .ok (.aload_n 0, 1) := by decide +kernel
theorem dX10_places_1 : decode cX10_places 1 = .ok (.iload_n 1, 1) := by decide +kernel
theorem dX10_places_2 : decode cX10_places 2 = .ok (.invokevirtual 41, 3) := by decide +kernel
theorem dX10_places_5 : decode cX10_places 5 = .ok (.astore_n 2, 1) := by decide +kernel
theorem dX10_places_6 : decode cX10_places 6 = .ok (.aload_n 2, 1) := by decide +kernel
theorem dX10_places_7 : decode cX10_places 7 = .ok (.ifnonnull 6, 3) := by decide +kernel
theorem dX10_places_10 : decode cX10_places 10 = .ok (.bipush (-102), 2) := by decide +kernel
theorem dX10_places_12 : decode cX10_places 12 = .ok (.ireturn, 1) := by decide +kernel
theorem dX10_places_13 : decode cX10_places 13 = .ok (.aload_n 2, 1) := by decide +kernel
theorem dX10_places_14 : decode cX10_places 14 = .ok (.invokevirtual 56, 3) := by decide +kernel
theorem dX10_places_17 : decode cX10_places 17 = .ok (.ifCond .eq 7, 3) := by decide +kernel
theorem dX10_places_20 : decode cX10_places 20 = .ok (.iconst (-1), 1) := by decide +kernel
theorem dX10_places_21 : decode cX10_places 21 = .ok (.goto 7, 3) := by decide +kernel
theorem dX10_places_24 : decode cX10_places 24 = .ok (.aload_n 2, 1) := by decide +kernel
theorem dX10_places_25 : decode cX10_places 25 = .ok (.getfield 112, 3) := by decide +kernel
theorem dX10_places_28 : decode cX10_places 28 = .ok (.ireturn, 1) := by decide +kernel
theorem dX10_tell_0 : decode cX10_tell 0 = .ok (.aload_n 0, 1) := by decide +kernel
theorem dX10_tell_1 : decode cX10_tell 1 = .ok (.iload_n 1, 1) := by decide +kernel
theorem dX10_tell_2 : decode cX10_tell 2 = .ok (.invokevirtual 63, 3) := by decide +kernel
theorem dX10_tell_5 : decode cX10_tell 5 = .ok (.astore_n 3, 1) := by decide +kernel
theorem dX10_tell_6 : decode cX10_tell 6 = .ok (.aload_n 3, 1) := by decide +kernel
theorem dX10_tell_7 : decode cX10_tell 7 = .ok (.ifnonnull 6, 3) := by decide +kernel
theorem dX10_tell_10 : decode cX10_tell 10 = .ok (.bipush (-101), 2) := by decide +kernel
theorem dX10_tell_12 : decode cX10_tell 12 = .ok (.ireturn, 1) := by decide +kernel
theorem dX10_tell_13 : decode cX10_tell 13 = .ok (.iload_n 2, 1) := by decide +kernel
theorem dX10_tell_14 : decode cX10_tell 14 = .ok (.tableswitch 68 0 5 #[38, 43, 48, 53, 58, 63], 38) := by decide +kernel
theorem dX10_tell_52 : decode cX10_tell 52 = .ok (.aload_n 3, 1) := by decide +kernel
theorem dX10_tell_53 : decode cX10_tell 53 = .ok (.getfield 115, 3) := by decide +kernel
theorem dX10_tell_56 : decode cX10_tell 56 = .ok (.ireturn, 1) := by decide +kernel
theorem dX10_tell_57 : decode cX10_tell 57 = .ok (.aload_n 3, 1) := by decide +kernel
theorem dX10_tell_58 : decode cX10_tell 58 = .ok (.getfield 118, 3) := by decide +kernel
theorem dX10_tell_61 : decode cX10_tell 61 = .ok (.ireturn, 1) := by decide +kernel
theorem dX10_tell_62 : decode cX10_tell 62 = .ok (.aload_n 3, 1) := by decide +kernel
theorem dX10_tell_63 : decode cX10_tell 63 = .ok (.getfield 121, 3) := by decide +kernel
theorem dX10_tell_66 : decode cX10_tell 66 = .ok (.ireturn, 1) := by decide +kernel
theorem dX10_tell_67 : decode cX10_tell 67 = .ok (.aload_n 3, 1) := by decide +kernel
theorem dX10_tell_68 : decode cX10_tell 68 = .ok (.getfield 74, 3) := by decide +kernel
theorem dX10_tell_71 : decode cX10_tell 71 = .ok (.ireturn, 1) := by decide +kernel
theorem dX10_tell_72 : decode cX10_tell 72 = .ok (.aload_n 3, 1) := by decide +kernel
theorem dX10_tell_73 : decode cX10_tell 73 = .ok (.getfield 124, 3) := by decide +kernel
theorem dX10_tell_76 : decode cX10_tell 76 = .ok (.ireturn, 1) := by decide +kernel
theorem dX10_tell_77 : decode cX10_tell 77 = .ok (.aload_n 3, 1) := by decide +kernel
theorem dX10_tell_78 : decode cX10_tell 78 = .ok (.getfield 127, 3) := by decide +kernel
theorem dX10_tell_81 : decode cX10_tell 81 = .ok (.ireturn, 1) := by decide +kernel
theorem dX10_tell_82 : decode cX10_tell 82 = .ok (.bipush (-102), 2) := by decide +kernel
theorem dX10_tell_84 : decode cX10_tell 84 = .ok (.ireturn, 1) := by decide +kernel
theorem dX10_book_0 : decode cX10_book 0 = .ok (.aload_n 0, 1) := by decide +kernel
theorem dX10_book_1 : decode cX10_book 1 = .ok (.getfield 10, 3) := by decide +kernel
theorem dX10_book_4 : decode cX10_book 4 = .ok (.iload_n 1, 1) := by decide +kernel
theorem dX10_book_5 : decode cX10_book 5 = .ok (.invokevirtual 130, 3) := by decide +kernel
theorem dX10_book_8 : decode cX10_book 8 = .ok (.ireturn, 1) := by decide +kernel
theorem dX10_count_0 : decode cX10_count 0 = .ok (.iload_n 1, 1) := by decide +kernel
theorem dX10_count_1 : decode cX10_count 1 = .ok (.tableswitch 72 0 4 #[35, 40, 48, 56, 64], 35) := by decide +kernel
theorem dX10_count_36 : decode cX10_count 36 = .ok (.aload_n 0, 1) := by decide +kernel
theorem dX10_count_37 : decode cX10_count 37 = .ok (.getfield 29, 3) := by decide +kernel
theorem dX10_count_40 : decode cX10_count 40 = .ok (.ireturn, 1) := by decide +kernel
theorem dX10_count_41 : decode cX10_count 41 = .ok (.aload_n 0, 1) := by decide +kernel
theorem dX10_count_42 : decode cX10_count 42 = .ok (.getfield 10, 3) := by decide +kernel
theorem dX10_count_45 : decode cX10_count 45 = .ok (.getfield 133, 3) := by decide +kernel
theorem dX10_count_48 : decode cX10_count 48 = .ok (.ireturn, 1) := by decide +kernel
theorem dX10_count_49 : decode cX10_count 49 = .ok (.aload_n 0, 1) := by decide +kernel
theorem dX10_count_50 : decode cX10_count 50 = .ok (.getfield 10, 3) := by decide +kernel
theorem dX10_count_53 : decode cX10_count 53 = .ok (.getfield 136, 3) := by decide +kernel
theorem dX10_count_56 : decode cX10_count 56 = .ok (.ireturn, 1) := by decide +kernel
theorem dX10_count_57 : decode cX10_count 57 = .ok (.aload_n 0, 1) := by decide +kernel
theorem dX10_count_58 : decode cX10_count 58 = .ok (.getfield 10, 3) := by decide +kernel
theorem dX10_count_61 : decode cX10_count 61 = .ok (.getfield 139, 3) := by decide +kernel
theorem dX10_count_64 : decode cX10_count 64 = .ok (.ireturn, 1) := by decide +kernel
theorem dX10_count_65 : decode cX10_count 65 = .ok (.aload_n 0, 1) := by decide +kernel
theorem dX10_count_66 : decode cX10_count 66 = .ok (.getfield 10, 3) := by decide +kernel
theorem dX10_count_69 : decode cX10_count 69 = .ok (.getfield 142, 3) := by decide +kernel
theorem dX10_count_72 : decode cX10_count 72 = .ok (.ireturn, 1) := by decide +kernel
theorem dX10_count_73 : decode cX10_count 73 = .ok (.bipush (-102), 2) := by decide +kernel
theorem dX10_count_75 : decode cX10_count 75 = .ok (.ireturn, 1) := by decide +kernel
theorem dX10_within_0 : decode cX10_within 0 = .ok (.iload_n 0, 1) := by decide +kernel
theorem dX10_within_1 : decode cX10_within 1 = .ok (.iload_n 1, 1) := by decide +kernel
theorem dX10_within_2 : decode cX10_within 2 = .ok (.if_icmp .lt 12, 3) := by decide +kernel
theorem dX10_within_5 : decode cX10_within 5 = .ok (.iload_n 0, 1) := by decide +kernel
theorem dX10_within_6 : decode cX10_within 6 = .ok (.iload_n 2, 1) := by decide +kernel
theorem dX10_within_7 : decode cX10_within 7 = .ok (.if_icmp .gt 7, 3) := by decide +kernel
theorem dX10_within_10 : decode cX10_within 10 = .ok (.iconst 1, 1) := by decide +kernel
theorem dX10_within_11 : decode cX10_within 11 = .ok (.goto 4, 3) := by decide +kernel
theorem dX10_within_14 : decode cX10_within 14 = .ok (.iconst 0, 1) := by decide +kernel
theorem dX10_within_15 : decode cX10_within 15 = .ok (.ireturn, 1) := by decide +kernel
theorem dX10_findLoaf_0 : decode cX10_findLoaf 0 = .ok (.iload_n 1, 1) := by decide +kernel
theorem dX10_findLoaf_1 : decode cX10_findLoaf 1 = .ok (.iconst 0, 1) := by decide +kernel
theorem dX10_findLoaf_2 : decode cX10_findLoaf 2 = .ok (.bipush 19, 2) := by decide +kernel
theorem dX10_findLoaf_4 : decode cX10_findLoaf 4 = .ok (.invokestatic 33, 3) := by decide +kernel
theorem dX10_findLoaf_7 : decode cX10_findLoaf 7 = .ok (.ifCond .eq 12, 3) := by decide +kernel
theorem dX10_findLoaf_10 : decode cX10_findLoaf 10 = .ok (.aload_n 0, 1) := by decide +kernel
theorem dX10_findLoaf_11 : decode cX10_findLoaf 11 = .ok (.getfield 25, 3) := by decide +kernel
theorem dX10_findLoaf_14 : decode cX10_findLoaf 14 = .ok (.iload_n 1, 1) := by decide +kernel
theorem dX10_findLoaf_15 : decode cX10_findLoaf 15 = .ok (.aaload, 1) := by decide +kernel
theorem dX10_findLoaf_16 : decode cX10_findLoaf 16 = .ok (.goto 4, 3) := by decide +kernel
theorem dX10_findLoaf_19 : decode cX10_findLoaf 19 = .ok (.aconst_null, 1) := by decide +kernel
theorem dX10_findLoaf_20 : decode cX10_findLoaf 20 = .ok (.areturn, 1) := by decide +kernel
theorem dX10_findShelf_0 : decode cX10_findShelf 0 = .ok (.iload_n 1, 1) := by decide +kernel
theorem dX10_findShelf_1 : decode cX10_findShelf 1 = .ok (.iconst 0, 1) := by decide +kernel
theorem dX10_findShelf_2 : decode cX10_findShelf 2 = .ok (.iconst 3, 1) := by decide +kernel
theorem dX10_findShelf_3 : decode cX10_findShelf 3 = .ok (.invokestatic 33, 3) := by decide +kernel
theorem dX10_findShelf_6 : decode cX10_findShelf 6 = .ok (.ifCond .eq 12, 3) := by decide +kernel
theorem dX10_findShelf_9 : decode cX10_findShelf 9 = .ok (.aload_n 0, 1) := by decide +kernel
theorem dX10_findShelf_10 : decode cX10_findShelf 10 = .ok (.getfield 18, 3) := by decide +kernel
theorem dX10_findShelf_13 : decode cX10_findShelf 13 = .ok (.iload_n 1, 1) := by decide +kernel
theorem dX10_findShelf_14 : decode cX10_findShelf 14 = .ok (.aaload, 1) := by decide +kernel
theorem dX10_findShelf_15 : decode cX10_findShelf 15 = .ok (.goto 4, 3) := by decide +kernel
theorem dX10_findShelf_18 : decode cX10_findShelf 18 = .ok (.aconst_null, 1) := by decide +kernel
theorem dX10_findShelf_19 : decode cX10_findShelf 19 = .ok (.areturn, 1) := by decide +kernel
theorem dX10_knead_0 : decode cX10_knead 0 = .ok (.iload_n 1, 1) := by decide +kernel
theorem dX10_knead_1 : decode cX10_knead 1 = .ok (.tableswitch 148 1 7 #[43, 58, 73, 88, 103, 118, 133], 43) := by decide +kernel
theorem dX10_knead_44 : decode cX10_knead 44 = .ok (.new 145, 3) := by decide +kernel
theorem dX10_knead_47 : decode cX10_knead 47 = .ok (.dup, 1) := by decide +kernel
theorem dX10_knead_48 : decode cX10_knead 48 = .ok (.aload_n 0, 1) := by decide +kernel
theorem dX10_knead_49 : decode cX10_knead 49 = .ok (.getfield 10, 3) := by decide +kernel
theorem dX10_knead_52 : decode cX10_knead 52 = .ok (.iload_n 2, 1) := by decide +kernel
theorem dX10_knead_53 : decode cX10_knead 53 = .ok (.iload_n 1, 1) := by decide +kernel
theorem dX10_knead_54 : decode cX10_knead 54 = .ok (.iload_n 3, 1) := by decide +kernel
theorem dX10_knead_55 : decode cX10_knead 55 = .ok (.invokespecial 147, 3) := by decide +kernel
theorem dX10_knead_58 : decode cX10_knead 58 = .ok (.areturn, 1) := by decide +kernel
theorem dX10_knead_59 : decode cX10_knead 59 = .ok (.new 150, 3) := by decide +kernel
theorem dX10_knead_62 : decode cX10_knead 62 = .ok (.dup, 1) := by decide +kernel
theorem dX10_knead_63 : decode cX10_knead 63 = .ok (.aload_n 0, 1) := by decide +kernel
theorem dX10_knead_64 : decode cX10_knead 64 = .ok (.getfield 10, 3) := by decide +kernel
theorem dX10_knead_67 : decode cX10_knead 67 = .ok (.iload_n 2, 1) := by decide +kernel
theorem dX10_knead_68 : decode cX10_knead 68 = .ok (.iload_n 1, 1) := by decide +kernel
theorem dX10_knead_69 : decode cX10_knead 69 = .ok (.iload_n 3, 1) := by decide +kernel
theorem dX10_knead_70 : decode cX10_knead 70 = .ok (.invokespecial 152, 3) := by decide +kernel
theorem dX10_knead_73 : decode cX10_knead 73 = .ok (.areturn, 1) := by decide +kernel
theorem dX10_knead_74 : decode cX10_knead 74 = .ok (.new 153, 3) := by decide +kernel
theorem dX10_knead_77 : decode cX10_knead 77 = .ok (.dup, 1) := by decide +kernel
theorem dX10_knead_78 : decode cX10_knead 78 = .ok (.aload_n 0, 1) := by decide +kernel
theorem dX10_knead_79 : decode cX10_knead 79 = .ok (.getfield 10, 3) := by decide +kernel
theorem dX10_knead_82 : decode cX10_knead 82 = .ok (.iload_n 2, 1) := by decide +kernel
theorem dX10_knead_83 : decode cX10_knead 83 = .ok (.iload_n 1, 1) := by decide +kernel
theorem dX10_knead_84 : decode cX10_knead 84 = .ok (.iload_n 3, 1) := by decide +kernel
theorem dX10_knead_85 : decode cX10_knead 85 = .ok (.invokespecial 155, 3) := by decide +kernel
theorem dX10_knead_88 : decode cX10_knead 88 = .ok (.areturn, 1) := by decide +kernel
theorem dX10_knead_89 : decode cX10_knead 89 = .ok (.new 156, 3) := by decide +kernel
theorem dX10_knead_92 : decode cX10_knead 92 = .ok (.dup, 1) := by decide +kernel
theorem dX10_knead_93 : decode cX10_knead 93 = .ok (.aload_n 0, 1) := by decide +kernel
theorem dX10_knead_94 : decode cX10_knead 94 = .ok (.getfield 10, 3) := by decide +kernel
theorem dX10_knead_97 : decode cX10_knead 97 = .ok (.iload_n 2, 1) := by decide +kernel
theorem dX10_knead_98 : decode cX10_knead 98 = .ok (.iload_n 1, 1) := by decide +kernel
theorem dX10_knead_99 : decode cX10_knead 99 = .ok (.iload_n 3, 1) := by decide +kernel
theorem dX10_knead_100 : decode cX10_knead 100 = .ok (.invokespecial 158, 3) := by decide +kernel
theorem dX10_knead_103 : decode cX10_knead 103 = .ok (.areturn, 1) := by decide +kernel
theorem dX10_knead_104 : decode cX10_knead 104 = .ok (.new 159, 3) := by decide +kernel
theorem dX10_knead_107 : decode cX10_knead 107 = .ok (.dup, 1) := by decide +kernel
theorem dX10_knead_108 : decode cX10_knead 108 = .ok (.aload_n 0, 1) := by decide +kernel
theorem dX10_knead_109 : decode cX10_knead 109 = .ok (.getfield 10, 3) := by decide +kernel
theorem dX10_knead_112 : decode cX10_knead 112 = .ok (.iload_n 2, 1) := by decide +kernel
theorem dX10_knead_113 : decode cX10_knead 113 = .ok (.iload_n 1, 1) := by decide +kernel
theorem dX10_knead_114 : decode cX10_knead 114 = .ok (.iload_n 3, 1) := by decide +kernel
theorem dX10_knead_115 : decode cX10_knead 115 = .ok (.invokespecial 161, 3) := by decide +kernel
theorem dX10_knead_118 : decode cX10_knead 118 = .ok (.areturn, 1) := by decide +kernel
theorem dX10_knead_119 : decode cX10_knead 119 = .ok (.new 162, 3) := by decide +kernel
theorem dX10_knead_122 : decode cX10_knead 122 = .ok (.dup, 1) := by decide +kernel
theorem dX10_knead_123 : decode cX10_knead 123 = .ok (.aload_n 0, 1) := by decide +kernel
theorem dX10_knead_124 : decode cX10_knead 124 = .ok (.getfield 10, 3) := by decide +kernel
theorem dX10_knead_127 : decode cX10_knead 127 = .ok (.iload_n 2, 1) := by decide +kernel
theorem dX10_knead_128 : decode cX10_knead 128 = .ok (.iload_n 1, 1) := by decide +kernel
theorem dX10_knead_129 : decode cX10_knead 129 = .ok (.iload_n 3, 1) := by decide +kernel
theorem dX10_knead_130 : decode cX10_knead 130 = .ok (.invokespecial 164, 3) := by decide +kernel
theorem dX10_knead_133 : decode cX10_knead 133 = .ok (.areturn, 1) := by decide +kernel
theorem dX10_knead_134 : decode cX10_knead 134 = .ok (.new 165, 3) := by decide +kernel
theorem dX10_knead_137 : decode cX10_knead 137 = .ok (.dup, 1) := by decide +kernel
theorem dX10_knead_138 : decode cX10_knead 138 = .ok (.aload_n 0, 1) := by decide +kernel
theorem dX10_knead_139 : decode cX10_knead 139 = .ok (.getfield 10, 3) := by decide +kernel
theorem dX10_knead_142 : decode cX10_knead 142 = .ok (.iload_n 2, 1) := by decide +kernel
theorem dX10_knead_143 : decode cX10_knead 143 = .ok (.iload_n 1, 1) := by decide +kernel
theorem dX10_knead_144 : decode cX10_knead 144 = .ok (.iload_n 3, 1) := by decide +kernel
theorem dX10_knead_145 : decode cX10_knead 145 = .ok (.invokespecial 167, 3) := by decide +kernel
theorem dX10_knead_148 : decode cX10_knead 148 = .ok (.areturn, 1) := by decide +kernel
theorem dX10_knead_149 : decode cX10_knead 149 = .ok (.new 23, 3) := by decide +kernel
theorem dX10_knead_152 : decode cX10_knead 152 = .ok (.dup, 1) := by decide +kernel
theorem dX10_knead_153 : decode cX10_knead 153 = .ok (.aload_n 0, 1) := by decide +kernel
theorem dX10_knead_154 : decode cX10_knead 154 = .ok (.getfield 10, 3) := by decide +kernel
theorem dX10_knead_157 : decode cX10_knead 157 = .ok (.iload_n 2, 1) := by decide +kernel
theorem dX10_knead_158 : decode cX10_knead 158 = .ok (.iload_n 1, 1) := by decide +kernel
theorem dX10_knead_159 : decode cX10_knead 159 = .ok (.iload_n 3, 1) := by decide +kernel
theorem dX10_knead_160 : decode cX10_knead 160 = .ok (.invokespecial 168, 3) := by decide +kernel
theorem dX10_knead_163 : decode cX10_knead 163 = .ok (.areturn, 1) := by decide +kernel
theorem dX10_placesOfLoaf_0 : decode cX10_placesOfLoaf 0 = .ok (.iconst 0, 1) := by decide +kernel
theorem dX10_placesOfLoaf_1 : decode cX10_placesOfLoaf 1 = .ok (.istore_n 2, 1) := by decide +kernel
theorem dX10_placesOfLoaf_2 : decode cX10_placesOfLoaf 2 = .ok (.iconst 0, 1) := by decide +kernel
theorem dX10_placesOfLoaf_3 : decode cX10_placesOfLoaf 3 = .ok (.istore_n 3, 1) := by decide +kernel
theorem dX10_placesOfLoaf_4 : decode cX10_placesOfLoaf 4 = .ok (.iload_n 3, 1) := by decide +kernel
theorem dX10_placesOfLoaf_5 : decode cX10_placesOfLoaf 5 = .ok (.iconst 4, 1) := by decide +kernel
theorem dX10_placesOfLoaf_6 : decode cX10_placesOfLoaf 6 = .ok (.if_icmp .ge 22, 3) := by decide +kernel
theorem dX10_placesOfLoaf_9 : decode cX10_placesOfLoaf 9 = .ok (.iload_n 2, 1) := by decide +kernel
theorem dX10_placesOfLoaf_10 : decode cX10_placesOfLoaf 10 = .ok (.aload_n 0, 1) := by decide +kernel
theorem dX10_placesOfLoaf_11 : decode cX10_placesOfLoaf 11 = .ok (.getfield 18, 3) := by decide +kernel
theorem dX10_placesOfLoaf_14 : decode cX10_placesOfLoaf 14 = .ok (.iload_n 3, 1) := by decide +kernel
theorem dX10_placesOfLoaf_15 : decode cX10_placesOfLoaf 15 = .ok (.aaload, 1) := by decide +kernel
theorem dX10_placesOfLoaf_16 : decode cX10_placesOfLoaf 16 = .ok (.iload_n 1, 1) := by decide +kernel
theorem dX10_placesOfLoaf_17 : decode cX10_placesOfLoaf 17 = .ok (.invokevirtual 169, 3) := by decide +kernel
theorem dX10_placesOfLoaf_20 : decode cX10_placesOfLoaf 20 = .ok (.iadd, 1) := by decide +kernel
theorem dX10_placesOfLoaf_21 : decode cX10_placesOfLoaf 21 = .ok (.istore_n 2, 1) := by decide +kernel
theorem dX10_placesOfLoaf_22 : decode cX10_placesOfLoaf 22 = .ok (.iinc 3 1, 3) := by decide +kernel
theorem dX10_placesOfLoaf_25 : decode cX10_placesOfLoaf 25 = .ok (.goto (-21), 3) := by decide +kernel
theorem dX10_placesOfLoaf_28 : decode cX10_placesOfLoaf 28 = .ok (.iload_n 2, 1) := by decide +kernel
theorem dX10_placesOfLoaf_29 : decode cX10_placesOfLoaf 29 = .ok (.ireturn, 1) := by decide +kernel
theorem dX10_bakeShelf_0 : decode cX10_bakeShelf 0 = .ok (.iconst 0, 1) := by decide +kernel
theorem dX10_bakeShelf_1 : decode cX10_bakeShelf 1 = .ok (.istore_n 3, 1) := by decide +kernel
theorem dX10_bakeShelf_2 : decode cX10_bakeShelf 2 = .ok (.iconst 0, 1) := by decide +kernel
theorem dX10_bakeShelf_3 : decode cX10_bakeShelf 3 = .ok (.istore 4, 2) := by decide +kernel
theorem dX10_bakeShelf_5 : decode cX10_bakeShelf 5 = .ok (.iload 4, 2) := by decide +kernel
theorem dX10_bakeShelf_7 : decode cX10_bakeShelf 7 = .ok (.bipush 8, 2) := by decide +kernel
theorem dX10_bakeShelf_9 : decode cX10_bakeShelf 9 = .ok (.if_icmp .ge 38, 3) := by decide +kernel
theorem dX10_bakeShelf_12 : decode cX10_bakeShelf 12 = .ok (.aload_n 0, 1) := by decide +kernel
theorem dX10_bakeShelf_13 : decode cX10_bakeShelf 13 = .ok (.aload_n 1, 1) := by decide +kernel
theorem dX10_bakeShelf_14 : decode cX10_bakeShelf 14 = .ok (.iload 4, 2) := by decide +kernel
theorem dX10_bakeShelf_16 : decode cX10_bakeShelf 16 = .ok (.invokevirtual 109, 3) := by decide +kernel
theorem dX10_bakeShelf_19 : decode cX10_bakeShelf 19 = .ok (.invokevirtual 63, 3) := by decide +kernel
theorem dX10_bakeShelf_22 : decode cX10_bakeShelf 22 = .ok (.astore 5, 2) := by decide +kernel
theorem dX10_bakeShelf_24 : decode cX10_bakeShelf 24 = .ok (.aload 5, 2) := by decide +kernel
theorem dX10_bakeShelf_26 : decode cX10_bakeShelf 26 = .ok (.ifnull 15, 3) := by decide +kernel
theorem dX10_bakeShelf_29 : decode cX10_bakeShelf 29 = .ok (.aload 5, 2) := by decide +kernel
theorem dX10_bakeShelf_31 : decode cX10_bakeShelf 31 = .ok (.iload_n 2, 1) := by decide +kernel
theorem dX10_bakeShelf_32 : decode cX10_bakeShelf 32 = .ok (.invokevirtual 84, 3) := by decide +kernel
theorem dX10_bakeShelf_35 : decode cX10_bakeShelf 35 = .ok (.ifCond .eq 6, 3) := by decide +kernel
theorem dX10_bakeShelf_38 : decode cX10_bakeShelf 38 = .ok (.iinc 3 1, 3) := by decide +kernel
theorem dX10_bakeShelf_41 : decode cX10_bakeShelf 41 = .ok (.iinc 4 1, 3) := by decide +kernel
theorem dX10_bakeShelf_44 : decode cX10_bakeShelf 44 = .ok (.goto (-39), 3) := by decide +kernel
theorem dX10_bakeShelf_47 : decode cX10_bakeShelf 47 = .ok (.iload_n 3, 1) := by decide +kernel
theorem dX10_bakeShelf_48 : decode cX10_bakeShelf 48 = .ok (.ireturn, 1) := by decide +kernel
theorem dX10_fallsAtRest_0 : decode cX10_fallsAtRest 0 = .ok (.aload_n 0, 1) := by decide +kernel
theorem dX10_fallsAtRest_1 : decode cX10_fallsAtRest 1 = .ok (.iload_n 1, 1) := by decide +kernel
theorem dX10_fallsAtRest_2 : decode cX10_fallsAtRest 2 = .ok (.invokevirtual 67, 3) := by decide +kernel
theorem dX10_fallsAtRest_5 : decode cX10_fallsAtRest 5 = .ok (.pop, 1) := by decide +kernel
theorem dX10_fallsAtRest_6 : decode cX10_fallsAtRest 6 = .ok (.iconst 0, 1) := by decide +kernel
theorem dX10_fallsAtRest_7 : decode cX10_fallsAtRest 7 = .ok (.ireturn, 1) := by decide +kernel
theorem dX10_fallsAtRest_8 : decode cX10_fallsAtRest 8 = .ok (.astore_n 2, 1) := by decide +kernel
theorem dX10_fallsAtRest_9 : decode cX10_fallsAtRest 9 = .ok (.iconst 1, 1) := by decide +kernel
theorem dX10_fallsAtRest_10 : decode cX10_fallsAtRest 10 = .ok (.ireturn, 1) := by decide +kernel
theorem dX10_isSold_0 : decode cX10_isSold 0 = .ok (.aload_n 0, 1) := by decide +kernel
theorem dX10_isSold_1 : decode cX10_isSold 1 = .ok (.getfield 115, 3) := by decide +kernel
theorem dX10_isSold_4 : decode cX10_isSold 4 = .ok (.iconst 4, 1) := by decide +kernel
theorem dX10_isSold_5 : decode cX10_isSold 5 = .ok (.bipush 7, 2) := by decide +kernel
theorem dX10_isSold_7 : decode cX10_isSold 7 = .ok (.invokestatic 33, 3) := by decide +kernel
theorem dX10_isSold_10 : decode cX10_isSold 10 = .ok (.ireturn, 1) := by decide +kernel
theorem dX10_priceOf_0 : decode cX10_priceOf 0 = .ok (.aload_n 0, 1) := by decide +kernel
theorem dX10_priceOf_1 : decode cX10_priceOf 1 = .ok (.invokevirtual 88, 3) := by decide +kernel
theorem dX10_priceOf_4 : decode cX10_priceOf 4 = .ok (.istore_n 1, 1) := by decide +kernel
theorem dX10_priceOf_5 : decode cX10_priceOf 5 = .ok (.aload_n 0, 1) := by decide +kernel
theorem dX10_priceOf_6 : decode cX10_priceOf 6 = .ok (.getfield 115, 3) := by decide +kernel
theorem dX10_priceOf_9 : decode cX10_priceOf 9 = .ok (.iconst 5, 1) := by decide +kernel
theorem dX10_priceOf_10 : decode cX10_priceOf 10 = .ok (.if_icmp .ne 10, 3) := by decide +kernel
theorem dX10_priceOf_13 : decode cX10_priceOf 13 = .ok (.iload_n 1, 1) := by decide +kernel
theorem dX10_priceOf_14 : decode cX10_priceOf 14 = .ok (.bipush 7, 2) := by decide +kernel
theorem dX10_priceOf_16 : decode cX10_priceOf 16 = .ok (.iadd, 1) := by decide +kernel
theorem dX10_priceOf_17 : decode cX10_priceOf 17 = .ok (.goto 9, 3) := by decide +kernel
theorem dX10_priceOf_20 : decode cX10_priceOf 20 = .ok (.iload_n 1, 1) := by decide +kernel
theorem dX10_priceOf_21 : decode cX10_priceOf 21 = .ok (.iload_n 1, 1) := by decide +kernel
theorem dX10_priceOf_22 : decode cX10_priceOf 22 = .ok (.bipush 10, 2) := by decide +kernel
theorem dX10_priceOf_24 : decode cX10_priceOf 24 = .ok (.idiv, 1) := by decide +kernel
theorem dX10_priceOf_25 : decode cX10_priceOf 25 = .ok (.iadd, 1) := by decide +kernel
theorem dX10_priceOf_26 : decode cX10_priceOf 26 = .ok (.ireturn, 1) := by decide +kernel
end
section
theorem dX11_init_0 : decode cX11_init 0 = .ok (.aload_n 0, 1) := by decide +kernel
theorem dX11_init_1 : decode cX11_init 1 = .ok (.invokespecial 1, 3) := by decide +kernel
theorem dX11_init_4 : decode cX11_init 4 = .ok (.aload_n 0, 1) := by decide +kernel
theorem dX11_init_5 : decode cX11_init 5 = .ok (.bipush 20, 2) := by decide +kernel
theorem dX11_init_7 : decode cX11_init 7 = .ok (.newarray .int, 2) := by decide +kernel
theorem dX11_init_9 : decode cX11_init 9 = .ok (.putfield 7, 3) := by decide +kernel
theorem dX11_init_12 : decode cX11_init 12 = .ok (.aload_n 0, 1) := by decide +kernel
theorem dX11_init_13 : decode cX11_init 13 = .ok (.bipush 20, 2) := by decide +kernel
theorem dX11_init_15 : decode cX11_init 15 = .ok (.newarray .int, 2) := by decide +kernel
theorem dX11_init_17 : decode cX11_init 17 = .ok (.putfield 13, 3) := by decide +kernel
theorem dX11_init_20 : decode cX11_init 20 = .ok (.aload_n 0, 1) := by decide +kernel
theorem dX11_init_21 : decode cX11_init 21 = .ok (.bipush 20, 2) := by decide +kernel
theorem dX11_init_23 : decode cX11_init 23 = .ok (.newarray .int, 2) := by decide +kernel
theorem dX11_init_25 : decode cX11_init 25 = .ok (.putfield 16, 3) := by decide +kernel
theorem dX11_init_28 : decode cX11_init 28 = .ok (.aload_n 0, 1) := by decide +kernel
theorem dX11_init_29 : decode cX11_init 29 = .ok (.bipush 20, 2) := by decide +kernel
theorem dX11_init_31 : decode cX11_init 31 = .ok (.newarray .int, 2) := by decide +kernel
theorem dX11_init_33 : decode cX11_init 33 = .ok (.putfield 19, 3) := by decide +kernel
theorem dX11_init_36 : decode cX11_init 36 = .ok (.aload_n 0, 1) := by decide +kernel
theorem dX11_init_37 : decode cX11_init 37 = .ok (.bipush 20, 2) := by decide +kernel
theorem dX11_init_39 : decode cX11_init 39 = .ok (.newarray .int, 2) := by decide +kernel
theorem dX11_init_41 : decode cX11_init 41 = .ok (.putfield 22, 3) := by decide +kernel
theorem dX11_init_44 : decode cX11_init 44 = .ok (.aload_n 0, 1) := by decide +kernel
theorem dX11_init_45 : decode cX11_init 45 = .ok (.bipush 20, 2) := by decide +kernel
theorem dX11_init_47 : decode cX11_init 47 = .ok (.newarray .int, 2) := by decide +kernel
theorem dX11_init_49 : decode cX11_init 49 = .ok (.putfield 25, 3) := by decide +kernel
theorem dX11_init_52 : decode cX11_init 52 = .ok (.aload_n 0, 1) := by decide +kernel
theorem dX11_init_53 : decode cX11_init 53 = .ok (.iconst 4, 1) := by decide +kernel
theorem dX11_init_54 : decode cX11_init 54 = .ok (.newarray .int, 2) := by decide +kernel
theorem dX11_init_56 : decode cX11_init 56 = .ok (.putfield 28, 3) := by decide +kernel
theorem dX11_init_59 : decode cX11_init 59 = .ok (.aload_n 0, 1) := by decide +kernel
theorem dX11_init_60 : decode cX11_init 60 = .ok (.bipush 32, 2) := by decide +kernel
theorem dX11_init_62 : decode cX11_init 62 = .ok (.newarray .int, 2) := by decide +kernel
theorem dX11_init_64 : decode cX11_init 64 = .ok (.putfield 31, 3) := by decide +kernel
theorem dX11_init_67 : decode cX11_init 67 = .ok (.aload_n 0, 1) := by decide +kernel
theorem dX11_init_68 : decode cX11_init 68 = .ok (.bipush 100, 2) := by decide +kernel
theorem dX11_init_70 : decode cX11_init 70 = .ok (.newarray .int, 2) := by decide +kernel
theorem dX11_init_72 : decode cX11_init 72 = .ok (.putfield 34, 3) := by decide +kernel
theorem dX11_init_75 : decode cX11_init 75 = .ok (.iconst 0, 1) := by decide +kernel
theorem dX11_init_76 : decode cX11_init 76 = .ok (.istore_n 1, 1) := by decide +kernel
theorem dX11_init_77 : decode cX11_init 77 = .ok (.iload_n 1, 1) := by decide +kernel
theorem dX11_init_78 : decode cX11_init 78 = .ok (.iconst 4, 1) := by decide +kernel
theorem dX11_init_79 : decode cX11_init 79 = .ok (.if_icmp .ge 16, 3) := by decide +kernel
theorem dX11_init_82 : decode cX11_init 82 = .ok (.aload_n 0, 1) := by decide +kernel
theorem dX11_init_83 : decode cX11_init 83 = .ok (.getfield 28, 3) := by decide +kernel
theorem dX11_init_86 : decode cX11_init 86 = .ok (.iload_n 1, 1) := by decide +kernel
theorem dX11_init_87 : decode cX11_init 87 = .ok (.iconst (-1), 1) := by decide +kernel
theorem dX11_init_88 : decode cX11_init 88 = .ok (.iastore, 1) := by decide +kernel
theorem dX11_init_89 : decode cX11_init 89 = .ok (.iinc 1 1, 3) := by decide +kernel
theorem dX11_init_92 : decode cX11_init 92 = .ok (.goto (-15), 3) := by decide +kernel
theorem dX11_init_95 : decode cX11_init 95 = .ok (.return_, 1) := by decide +kernel
theorem dX11_thrown_0 : decode cX11_thrown 0 = .ok (.aload_n 0, 1) := by decide +kernel
theorem dX11_thrown_1 : decode cX11_thrown 1 = .ok (.getfield 37, 3) := by decide +kernel
theorem dX11_thrown_4 : decode cX11_thrown 4 = .ok (.ireturn, 1) := by decide +kernel
theorem dX11_within_0 : decode cX11_within 0 = .ok (.iload_n 0, 1) := by decide +kernel
theorem dX11_within_1 : decode cX11_within 1 = .ok (.iload_n 1, 1) := by decide +kernel
theorem dX11_within_2 : decode cX11_within 2 = .ok (.if_icmp .lt 12, 3) := by decide +kernel
theorem dX11_within_5 : decode cX11_within 5 = .ok (.iload_n 0, 1) := by decide +kernel
theorem dX11_within_6 : decode cX11_within 6 = .ok (.iload_n 2, 1) := by decide +kernel
theorem dX11_within_7 : decode cX11_within 7 = .ok (.if_icmp .gt 7, 3) := by decide +kernel
theorem dX11_within_10 : decode cX11_within 10 = .ok (.iconst 1, 1) := by decide +kernel
theorem dX11_within_11 : decode cX11_within 11 = .ok (.goto 4, 3) := by decide +kernel
theorem dX11_within_14 : decode cX11_within 14 = .ok (.iconst 0, 1) := by decide +kernel
theorem dX11_within_15 : decode cX11_within 15 = .ok (.ireturn, 1) := by decide +kernel
theorem dX11_isLoaf_0 : decode cX11_isLoaf 0 = .ok (.iload_n 1, 1) := by decide +kernel
theorem dX11_isLoaf_1 : decode cX11_isLoaf 1 = .ok (.iconst 0, 1) := by decide +kernel
theorem dX11_isLoaf_2 : decode cX11_isLoaf 2 = .ok (.aload_n 0, 1) := by decide +kernel
theorem dX11_isLoaf_3 : decode cX11_isLoaf 3 = .ok (.getfield 41, 3) := by decide +kernel
theorem dX11_isLoaf_6 : decode cX11_isLoaf 6 = .ok (.iconst 1, 1) := by decide +kernel
theorem dX11_isLoaf_7 : decode cX11_isLoaf 7 = .ok (.isub, 1) := by decide +kernel
theorem dX11_isLoaf_8 : decode cX11_isLoaf 8 = .ok (.invokestatic 44, 3) := by decide +kernel
theorem dX11_isLoaf_11 : decode cX11_isLoaf 11 = .ok (.ireturn, 1) := by decide +kernel
theorem dX11_isShelf_0 : decode cX11_isShelf 0 = .ok (.iload_n 0, 1) := by decide +kernel
theorem dX11_isShelf_1 : decode cX11_isShelf 1 = .ok (.iconst 0, 1) := by decide +kernel
theorem dX11_isShelf_2 : decode cX11_isShelf 2 = .ok (.iconst 3, 1) := by decide +kernel
theorem dX11_isShelf_3 : decode cX11_isShelf 3 = .ok (.invokestatic 44, 3) := by decide +kernel
theorem dX11_isShelf_6 : decode cX11_isShelf 6 = .ok (.ireturn, 1) := by decide +kernel
theorem dX11_begin_0 : decode cX11_begin 0 = .ok (.aload_n 0, 1) := by decide +kernel
theorem dX11_begin_1 : decode cX11_begin 1 = .ok (.getfield 34, 3) := by decide +kernel
theorem dX11_begin_4 : decode cX11_begin 4 = .ok (.aload_n 0, 1) := by decide +kernel
theorem dX11_begin_5 : decode cX11_begin 5 = .ok (.getfield 48, 3) := by decide +kernel
theorem dX11_begin_8 : decode cX11_begin 8 = .ok (.bipush 100, 2) := by decide +kernel
theorem dX11_begin_10 : decode cX11_begin 10 = .ok (.irem, 1) := by decide +kernel
theorem dX11_begin_11 : decode cX11_begin 11 = .ok (.bipush 10, 2) := by decide +kernel
theorem dX11_begin_13 : decode cX11_begin 13 = .ok (.iload_n 1, 1) := by decide +kernel
theorem dX11_begin_14 : decode cX11_begin 14 = .ok (.imul, 1) := by decide +kernel
theorem dX11_begin_15 : decode cX11_begin 15 = .ok (.iload_n 2, 1) := by decide +kernel
theorem dX11_begin_16 : decode cX11_begin 16 = .ok (.iadd, 1) := by decide +kernel
theorem dX11_begin_17 : decode cX11_begin 17 = .ok (.iastore, 1) := by decide +kernel
theorem dX11_begin_18 : decode cX11_begin 18 = .ok (.aload_n 0, 1) := by decide +kernel
theorem dX11_begin_19 : decode cX11_begin 19 = .ok (.dup, 1) := by decide +kernel
theorem dX11_begin_20 : decode cX11_begin 20 = .ok (.getfield 48, 3) := by decide +kernel
theorem dX11_begin_23 : decode cX11_begin 23 = .ok (.iconst 1, 1) := by decide +kernel
theorem dX11_begin_24 : decode cX11_begin 24 = .ok (.iadd, 1) := by decide +kernel
theorem dX11_begin_25 : decode cX11_begin 25 = .ok (.putfield 48, 3) := by decide +kernel
theorem dX11_begin_28 : decode cX11_begin 28 = .ok (.return_, 1) := by decide +kernel
theorem dX11_plainRest_0 : decode cX11_plainRest 0 = .ok (.aload_n 0, 1) := by decide +kernel
theorem dX11_plainRest_1 : decode cX11_plainRest 1 = .ok (.iconst 0, 1) := by decide +kernel
theorem dX11_plainRest_2 : decode cX11_plainRest 2 = .ok (.iconst 0, 1) := by decide +kernel
theorem dX11_plainRest_3 : decode cX11_plainRest 3 = .ok (.invokevirtual 51, 3) := by decide +kernel
theorem dX11_plainRest_6 : decode cX11_plainRest 6 = .ok (.aload_n 0, 1) := by decide +kernel
theorem dX11_plainRest_7 : decode cX11_plainRest 7 = .ok (.getfield 16, 3) := by decide +kernel
theorem dX11_plainRest_10 : decode cX11_plainRest 10 = .ok (.iload_n 1, 1) := by decide +kernel
theorem dX11_plainRest_11 : decode cX11_plainRest 11 = .ok (.aload_n 0, 1) := by decide +kernel
theorem dX11_plainRest_12 : decode cX11_plainRest 12 = .ok (.getfield 16, 3) := by decide +kernel
theorem dX11_plainRest_15 : decode cX11_plainRest 15 = .ok (.iload_n 1, 1) := by decide +kernel
theorem dX11_plainRest_16 : decode cX11_plainRest 16 = .ok (.iaload, 1) := by decide +kernel
theorem dX11_plainRest_17 : decode cX11_plainRest 17 = .ok (.iload_n 2, 1) := by decide +kernel
theorem dX11_plainRest_18 : decode cX11_plainRest 18 = .ok (.bipush 6, 2) := by decide +kernel
theorem dX11_plainRest_20 : decode cX11_plainRest 20 = .ok (.idiv, 1) := by decide +kernel
theorem dX11_plainRest_21 : decode cX11_plainRest 21 = .ok (.iadd, 1) := by decide +kernel
theorem dX11_plainRest_22 : decode cX11_plainRest 22 = .ok (.bipush 100, 2) := by decide +kernel
theorem dX11_plainRest_24 : decode cX11_plainRest 24 = .ok (.if_icmp .le 8, 3) := by decide +kernel
theorem dX11_plainRest_27 : decode cX11_plainRest 27 = .ok (.bipush 100, 2) := by decide +kernel
theorem dX11_plainRest_29 : decode cX11_plainRest 29 = .ok (.goto 14, 3) := by decide +kernel
theorem dX11_plainRest_32 : decode cX11_plainRest 32 = .ok (.aload_n 0, 1) := by decide +kernel
theorem dX11_plainRest_33 : decode cX11_plainRest 33 = .ok (.getfield 16, 3) := by decide +kernel
theorem dX11_plainRest_36 : decode cX11_plainRest 36 = .ok (.iload_n 1, 1) := by decide +kernel
theorem dX11_plainRest_37 : decode cX11_plainRest 37 = .ok (.iaload, 1) := by decide +kernel
theorem dX11_plainRest_38 : decode cX11_plainRest 38 = .ok (.iload_n 2, 1) := by decide +kernel
theorem dX11_plainRest_39 : decode cX11_plainRest 39 = .ok (.bipush 6, 2) := by decide +kernel
theorem dX11_plainRest_41 : decode cX11_plainRest 41 = .ok (.idiv, 1) := by decide +kernel
theorem dX11_plainRest_42 : decode cX11_plainRest 42 = .ok (.iadd, 1) := by decide +kernel
theorem dX11_plainRest_43 : decode cX11_plainRest 43 = .ok (.iastore, 1) := by decide +kernel
theorem dX11_plainRest_44 : decode cX11_plainRest 44 = .ok (.return_, 1) := by decide +kernel
theorem dX11_ryeRest_0 : decode cX11_ryeRest 0 = .ok (.aload_n 0, 1) := by decide +kernel
theorem dX11_ryeRest_1 : decode cX11_ryeRest 1 = .ok (.iconst 0, 1) := by decide +kernel
theorem dX11_ryeRest_2 : decode cX11_ryeRest 2 = .ok (.iconst 2, 1) := by decide +kernel
theorem dX11_ryeRest_3 : decode cX11_ryeRest 3 = .ok (.invokevirtual 51, 3) := by decide +kernel
theorem dX11_ryeRest_6 : decode cX11_ryeRest 6 = .ok (.aload_n 0, 1) := by decide +kernel
theorem dX11_ryeRest_7 : decode cX11_ryeRest 7 = .ok (.iload_n 1, 1) := by decide +kernel
theorem dX11_ryeRest_8 : decode cX11_ryeRest 8 = .ok (.iload_n 2, 1) := by decide +kernel
theorem dX11_ryeRest_9 : decode cX11_ryeRest 9 = .ok (.iconst 2, 1) := by decide +kernel
theorem dX11_ryeRest_10 : decode cX11_ryeRest 10 = .ok (.idiv, 1) := by decide +kernel
theorem dX11_ryeRest_11 : decode cX11_ryeRest 11 = .ok (.invokevirtual 55, 3) := by decide +kernel
theorem dX11_ryeRest_14 : decode cX11_ryeRest 14 = .ok (.return_, 1) := by decide +kernel
theorem dX11_sourRest_0 : decode cX11_sourRest 0 = .ok (.aload_n 0, 1) := by decide +kernel
theorem dX11_sourRest_1 : decode cX11_sourRest 1 = .ok (.iconst 0, 1) := by decide +kernel
theorem dX11_sourRest_2 : decode cX11_sourRest 2 = .ok (.iconst 4, 1) := by decide +kernel
theorem dX11_sourRest_3 : decode cX11_sourRest 3 = .ok (.invokevirtual 51, 3) := by decide +kernel
theorem dX11_sourRest_6 : decode cX11_sourRest 6 = .ok (.aload_n 0, 1) := by decide +kernel
theorem dX11_sourRest_7 : decode cX11_sourRest 7 = .ok (.getfield 22, 3) := by decide +kernel
theorem dX11_sourRest_10 : decode cX11_sourRest 10 = .ok (.iload_n 1, 1) := by decide +kernel
theorem dX11_sourRest_11 : decode cX11_sourRest 11 = .ok (.dup2, 1) := by decide +kernel
theorem dX11_sourRest_12 : decode cX11_sourRest 12 = .ok (.iaload, 1) := by decide +kernel
theorem dX11_sourRest_13 : decode cX11_sourRest 13 = .ok (.iconst 1, 1) := by decide +kernel
theorem dX11_sourRest_14 : decode cX11_sourRest 14 = .ok (.iadd, 1) := by decide +kernel
theorem dX11_sourRest_15 : decode cX11_sourRest 15 = .ok (.iastore, 1) := by decide +kernel
theorem dX11_sourRest_16 : decode cX11_sourRest 16 = .ok (.aload_n 0, 1) := by decide +kernel
theorem dX11_sourRest_17 : decode cX11_sourRest 17 = .ok (.iload_n 1, 1) := by decide +kernel
theorem dX11_sourRest_18 : decode cX11_sourRest 18 = .ok (.iload_n 2, 1) := by decide +kernel
theorem dX11_sourRest_19 : decode cX11_sourRest 19 = .ok (.invokevirtual 58, 3) := by decide +kernel
theorem dX11_sourRest_22 : decode cX11_sourRest 22 = .ok (.return_, 1) := by decide +kernel
theorem dX11_rests_0 : decode cX11_rests 0 = .ok (.aload_n 0, 1) := by decide +kernel
theorem dX11_rests_1 : decode cX11_rests 1 = .ok (.iconst 0, 1) := by decide +kernel
theorem dX11_rests_2 : decode cX11_rests 2 = .ok (.putfield 61, 3) := by decide +kernel
theorem dX11_rests_5 : decode cX11_rests 5 = .ok (.aload_n 0, 1) := by decide +kernel
theorem dX11_rests_6 : decode cX11_rests 6 = .ok (.getfield 7, 3) := by decide +kernel
theorem dX11_rests_9 : decode cX11_rests 9 = .ok (.iload_n 1, 1) := by decide +kernel
theorem dX11_rests_10 : decode cX11_rests 10 = .ok (.iaload, 1) := by decide +kernel
theorem dX11_rests_11 : decode cX11_rests 11 = .ok (.tableswitch 127 2 7 #[37, 127, 46, 78, 127, 55], 37) := by decide +kernel
theorem dX11_rests_48 : decode cX11_rests 48 = .ok (.aload_n 0, 1) := by decide +kernel
theorem dX11_rests_49 : decode cX11_rests 49 = .ok (.iload_n 1, 1) := by decide +kernel
theorem dX11_rests_50 : decode cX11_rests 50 = .ok (.iload_n 2, 1) := by decide +kernel
theorem dX11_rests_51 : decode cX11_rests 51 = .ok (.invokevirtual 58, 3) := by decide +kernel
theorem dX11_rests_54 : decode cX11_rests 54 = .ok (.goto 90, 3) := by decide +kernel
theorem dX11_rests_57 : decode cX11_rests 57 = .ok (.aload_n 0, 1) := by decide +kernel
theorem dX11_rests_58 : decode cX11_rests 58 = .ok (.iload_n 1, 1) := by decide +kernel
theorem dX11_rests_59 : decode cX11_rests 59 = .ok (.iload_n 2, 1) := by decide +kernel
theorem dX11_rests_60 : decode cX11_rests 60 = .ok (.invokevirtual 65, 3) := by decide +kernel
theorem dX11_rests_63 : decode cX11_rests 63 = .ok (.goto 81, 3) := by decide +kernel
theorem dX11_rests_66 : decode cX11_rests 66 = .ok (.aload_n 0, 1) := by decide +kernel
theorem dX11_rests_67 : decode cX11_rests 67 = .ok (.iconst 0, 1) := by decide +kernel
theorem dX11_rests_68 : decode cX11_rests 68 = .ok (.bipush 7, 2) := by decide +kernel
theorem dX11_rests_70 : decode cX11_rests 70 = .ok (.invokevirtual 51, 3) := by decide +kernel
theorem dX11_rests_73 : decode cX11_rests 73 = .ok (.aload_n 0, 1) := by decide +kernel
theorem dX11_rests_74 : decode cX11_rests 74 = .ok (.iload_n 1, 1) := by decide +kernel
theorem dX11_rests_75 : decode cX11_rests 75 = .ok (.iload_n 2, 1) := by decide +kernel
theorem dX11_rests_76 : decode cX11_rests 76 = .ok (.aload_n 0, 1) := by decide +kernel
theorem dX11_rests_77 : decode cX11_rests 77 = .ok (.getfield 22, 3) := by decide +kernel
theorem dX11_rests_80 : decode cX11_rests 80 = .ok (.iload_n 1, 1) := by decide +kernel
theorem dX11_rests_81 : decode cX11_rests 81 = .ok (.iaload, 1) := by decide +kernel
theorem dX11_rests_82 : decode cX11_rests 82 = .ok (.iadd, 1) := by decide +kernel
theorem dX11_rests_83 : decode cX11_rests 83 = .ok (.invokevirtual 65, 3) := by decide +kernel
theorem dX11_rests_86 : decode cX11_rests 86 = .ok (.goto 58, 3) := by decide +kernel
theorem dX11_rests_89 : decode cX11_rests 89 = .ok (.aload_n 0, 1) := by decide +kernel
theorem dX11_rests_90 : decode cX11_rests 90 = .ok (.iconst 0, 1) := by decide +kernel
theorem dX11_rests_91 : decode cX11_rests 91 = .ok (.iconst 5, 1) := by decide +kernel
theorem dX11_rests_92 : decode cX11_rests 92 = .ok (.invokevirtual 51, 3) := by decide +kernel
theorem dX11_rests_95 : decode cX11_rests 95 = .ok (.aload_n 0, 1) := by decide +kernel
theorem dX11_rests_96 : decode cX11_rests 96 = .ok (.iload_n 1, 1) := by decide +kernel
theorem dX11_rests_97 : decode cX11_rests 97 = .ok (.iload_n 2, 1) := by decide +kernel
theorem dX11_rests_98 : decode cX11_rests 98 = .ok (.invokevirtual 55, 3) := by decide +kernel
theorem dX11_rests_101 : decode cX11_rests 101 = .ok (.aload_n 0, 1) := by decide +kernel
theorem dX11_rests_102 : decode cX11_rests 102 = .ok (.getfield 16, 3) := by decide +kernel
theorem dX11_rests_105 : decode cX11_rests 105 = .ok (.iload_n 1, 1) := by decide +kernel
theorem dX11_rests_106 : decode cX11_rests 106 = .ok (.iaload, 1) := by decide +kernel
theorem dX11_rests_107 : decode cX11_rests 107 = .ok (.bipush 90, 2) := by decide +kernel
theorem dX11_rests_109 : decode cX11_rests 109 = .ok (.if_icmp .lt 35, 3) := by decide +kernel
theorem dX11_rests_112 : decode cX11_rests 112 = .ok (.aload_n 0, 1) := by decide +kernel
theorem dX11_rests_113 : decode cX11_rests 113 = .ok (.getfield 16, 3) := by decide +kernel
theorem dX11_rests_116 : decode cX11_rests 116 = .ok (.iload_n 1, 1) := by decide +kernel
theorem dX11_rests_117 : decode cX11_rests 117 = .ok (.bipush 10, 2) := by decide +kernel
theorem dX11_rests_119 : decode cX11_rests 119 = .ok (.iastore, 1) := by decide +kernel
theorem dX11_rests_120 : decode cX11_rests 120 = .ok (.aload_n 0, 1) := by decide +kernel
theorem dX11_rests_121 : decode cX11_rests 121 = .ok (.iconst 1, 1) := by decide +kernel
theorem dX11_rests_122 : decode cX11_rests 122 = .ok (.putfield 61, 3) := by decide +kernel
theorem dX11_rests_125 : decode cX11_rests 125 = .ok (.aload_n 0, 1) := by decide +kernel
theorem dX11_rests_126 : decode cX11_rests 126 = .ok (.dup, 1) := by decide +kernel
theorem dX11_rests_127 : decode cX11_rests 127 = .ok (.getfield 68, 3) := by decide +kernel
theorem dX11_rests_130 : decode cX11_rests 130 = .ok (.iconst 1, 1) := by decide +kernel
theorem dX11_rests_131 : decode cX11_rests 131 = .ok (.iadd, 1) := by decide +kernel
theorem dX11_rests_132 : decode cX11_rests 132 = .ok (.putfield 68, 3) := by decide +kernel
theorem dX11_rests_135 : decode cX11_rests 135 = .ok (.goto 9, 3) := by decide +kernel
theorem dX11_rests_138 : decode cX11_rests 138 = .ok (.aload_n 0, 1) := by decide +kernel
theorem dX11_rests_139 : decode cX11_rests 139 = .ok (.iload_n 1, 1) := by decide +kernel
theorem dX11_rests_140 : decode cX11_rests 140 = .ok (.iload_n 2, 1) := by decide +kernel
theorem dX11_rests_141 : decode cX11_rests 141 = .ok (.invokevirtual 55, 3) := by decide +kernel
theorem dX11_rests_144 : decode cX11_rests 144 = .ok (.aload_n 0, 1) := by decide +kernel
theorem dX11_rests_145 : decode cX11_rests 145 = .ok (.getfield 16, 3) := by decide +kernel
theorem dX11_rests_148 : decode cX11_rests 148 = .ok (.iload_n 1, 1) := by decide +kernel
theorem dX11_rests_149 : decode cX11_rests 149 = .ok (.iaload, 1) := by decide +kernel
theorem dX11_rests_150 : decode cX11_rests 150 = .ok (.ireturn, 1) := by decide +kernel
theorem dX11_plainFold_0 : decode cX11_plainFold 0 = .ok (.aload_n 0, 1) := by decide +kernel
theorem dX11_plainFold_1 : decode cX11_plainFold 1 = .ok (.iconst 1, 1) := by decide +kernel
theorem dX11_plainFold_2 : decode cX11_plainFold 2 = .ok (.iconst 0, 1) := by decide +kernel
theorem dX11_plainFold_3 : decode cX11_plainFold 3 = .ok (.invokevirtual 51, 3) := by decide +kernel
theorem dX11_plainFold_6 : decode cX11_plainFold 6 = .ok (.aload_n 0, 1) := by decide +kernel
theorem dX11_plainFold_7 : decode cX11_plainFold 7 = .ok (.getfield 16, 3) := by decide +kernel
theorem dX11_plainFold_10 : decode cX11_plainFold 10 = .ok (.iload_n 1, 1) := by decide +kernel
theorem dX11_plainFold_11 : decode cX11_plainFold 11 = .ok (.aload_n 0, 1) := by decide +kernel
theorem dX11_plainFold_12 : decode cX11_plainFold 12 = .ok (.getfield 16, 3) := by decide +kernel
theorem dX11_plainFold_15 : decode cX11_plainFold 15 = .ok (.iload_n 1, 1) := by decide +kernel
theorem dX11_plainFold_16 : decode cX11_plainFold 16 = .ok (.iaload, 1) := by decide +kernel
theorem dX11_plainFold_17 : decode cX11_plainFold 17 = .ok (.iconst 2, 1) := by decide +kernel
theorem dX11_plainFold_18 : decode cX11_plainFold 18 = .ok (.idiv, 1) := by decide +kernel
theorem dX11_plainFold_19 : decode cX11_plainFold 19 = .ok (.iastore, 1) := by decide +kernel
theorem dX11_plainFold_20 : decode cX11_plainFold 20 = .ok (.aload_n 0, 1) := by decide +kernel
theorem dX11_plainFold_21 : decode cX11_plainFold 21 = .ok (.getfield 19, 3) := by decide +kernel
theorem dX11_plainFold_24 : decode cX11_plainFold 24 = .ok (.iload_n 1, 1) := by decide +kernel
theorem dX11_plainFold_25 : decode cX11_plainFold 25 = .ok (.dup2, 1) := by decide +kernel
theorem dX11_plainFold_26 : decode cX11_plainFold 26 = .ok (.iaload, 1) := by decide +kernel
theorem dX11_plainFold_27 : decode cX11_plainFold 27 = .ok (.iconst 1, 1) := by decide +kernel
theorem dX11_plainFold_28 : decode cX11_plainFold 28 = .ok (.iadd, 1) := by decide +kernel
theorem dX11_plainFold_29 : decode cX11_plainFold 29 = .ok (.iastore, 1) := by decide +kernel
theorem dX11_plainFold_30 : decode cX11_plainFold 30 = .ok (.return_, 1) := by decide +kernel
theorem dX11_folds_0 : decode cX11_folds 0 = .ok (.aload_n 0, 1) := by decide +kernel
theorem dX11_folds_1 : decode cX11_folds 1 = .ok (.getfield 7, 3) := by decide +kernel
theorem dX11_folds_4 : decode cX11_folds 4 = .ok (.iload_n 1, 1) := by decide +kernel
theorem dX11_folds_5 : decode cX11_folds 5 = .ok (.iaload, 1) := by decide +kernel
theorem dX11_folds_6 : decode cX11_folds 6 = .ok (.tableswitch 114 3 7 #[34, 53, 34, 94, 53], 34) := by decide +kernel
theorem dX11_folds_40 : decode cX11_folds 40 = .ok (.aload_n 0, 1) := by decide +kernel
theorem dX11_folds_41 : decode cX11_folds 41 = .ok (.iconst 1, 1) := by decide +kernel
theorem dX11_folds_42 : decode cX11_folds 42 = .ok (.iconst 3, 1) := by decide +kernel
theorem dX11_folds_43 : decode cX11_folds 43 = .ok (.invokevirtual 51, 3) := by decide +kernel
theorem dX11_folds_46 : decode cX11_folds 46 = .ok (.aload_n 0, 1) := by decide +kernel
theorem dX11_folds_47 : decode cX11_folds 47 = .ok (.iload_n 1, 1) := by decide +kernel
theorem dX11_folds_48 : decode cX11_folds 48 = .ok (.invokevirtual 71, 3) := by decide +kernel
theorem dX11_folds_51 : decode cX11_folds 51 = .ok (.aload_n 0, 1) := by decide +kernel
theorem dX11_folds_52 : decode cX11_folds 52 = .ok (.iload_n 1, 1) := by decide +kernel
theorem dX11_folds_53 : decode cX11_folds 53 = .ok (.invokevirtual 71, 3) := by decide +kernel
theorem dX11_folds_56 : decode cX11_folds 56 = .ok (.goto 69, 3) := by decide +kernel
theorem dX11_folds_59 : decode cX11_folds 59 = .ok (.aload_n 0, 1) := by decide +kernel
theorem dX11_folds_60 : decode cX11_folds 60 = .ok (.iconst 1, 1) := by decide +kernel
theorem dX11_folds_61 : decode cX11_folds 61 = .ok (.iconst 4, 1) := by decide +kernel
theorem dX11_folds_62 : decode cX11_folds 62 = .ok (.invokevirtual 51, 3) := by decide +kernel
theorem dX11_folds_65 : decode cX11_folds 65 = .ok (.aload_n 0, 1) := by decide +kernel
theorem dX11_folds_66 : decode cX11_folds 66 = .ok (.iload_n 1, 1) := by decide +kernel
theorem dX11_folds_67 : decode cX11_folds 67 = .ok (.invokevirtual 71, 3) := by decide +kernel
theorem dX11_folds_70 : decode cX11_folds 70 = .ok (.aload_n 0, 1) := by decide +kernel
theorem dX11_folds_71 : decode cX11_folds 71 = .ok (.getfield 22, 3) := by decide +kernel
theorem dX11_folds_74 : decode cX11_folds 74 = .ok (.iload_n 1, 1) := by decide +kernel
theorem dX11_folds_75 : decode cX11_folds 75 = .ok (.aload_n 0, 1) := by decide +kernel
theorem dX11_folds_76 : decode cX11_folds 76 = .ok (.getfield 22, 3) := by decide +kernel
theorem dX11_folds_79 : decode cX11_folds 79 = .ok (.iload_n 1, 1) := by decide +kernel
theorem dX11_folds_80 : decode cX11_folds 80 = .ok (.iaload, 1) := by decide +kernel
theorem dX11_folds_81 : decode cX11_folds 81 = .ok (.ifCond .le 14, 3) := by decide +kernel
theorem dX11_folds_84 : decode cX11_folds 84 = .ok (.aload_n 0, 1) := by decide +kernel
theorem dX11_folds_85 : decode cX11_folds 85 = .ok (.getfield 22, 3) := by decide +kernel
theorem dX11_folds_88 : decode cX11_folds 88 = .ok (.iload_n 1, 1) := by decide +kernel
theorem dX11_folds_89 : decode cX11_folds 89 = .ok (.iaload, 1) := by decide +kernel
theorem dX11_folds_90 : decode cX11_folds 90 = .ok (.iconst 1, 1) := by decide +kernel
theorem dX11_folds_91 : decode cX11_folds 91 = .ok (.isub, 1) := by decide +kernel
theorem dX11_folds_92 : decode cX11_folds 92 = .ok (.goto 4, 3) := by decide +kernel
theorem dX11_folds_95 : decode cX11_folds 95 = .ok (.iconst 0, 1) := by decide +kernel
theorem dX11_folds_96 : decode cX11_folds 96 = .ok (.iastore, 1) := by decide +kernel
theorem dX11_folds_97 : decode cX11_folds 97 = .ok (.goto 28, 3) := by decide +kernel
theorem dX11_folds_100 : decode cX11_folds 100 = .ok (.aload_n 0, 1) := by decide +kernel
theorem dX11_folds_101 : decode cX11_folds 101 = .ok (.iconst 1, 1) := by decide +kernel
theorem dX11_folds_102 : decode cX11_folds 102 = .ok (.bipush 6, 2) := by decide +kernel
theorem dX11_folds_104 : decode cX11_folds 104 = .ok (.invokevirtual 51, 3) := by decide +kernel
theorem dX11_folds_107 : decode cX11_folds 107 = .ok (.aload_n 0, 1) := by decide +kernel
theorem dX11_folds_108 : decode cX11_folds 108 = .ok (.getfield 19, 3) := by decide +kernel
theorem dX11_folds_111 : decode cX11_folds 111 = .ok (.iload_n 1, 1) := by decide +kernel
theorem dX11_folds_112 : decode cX11_folds 112 = .ok (.dup2, 1) := by decide +kernel
theorem dX11_folds_113 : decode cX11_folds 113 = .ok (.iaload, 1) := by decide +kernel
theorem dX11_folds_114 : decode cX11_folds 114 = .ok (.iconst 1, 1) := by decide +kernel
theorem dX11_folds_115 : decode cX11_folds 115 = .ok (.iadd, 1) := by decide +kernel
theorem dX11_folds_116 : decode cX11_folds 116 = .ok (.iastore, 1) := by decide +kernel
theorem dX11_folds_117 : decode cX11_folds 117 = .ok (.goto 8, 3) := by decide +kernel
theorem dX11_folds_120 : decode cX11_folds 120 = .ok (.aload_n 0, 1) := by decide +kernel
theorem dX11_folds_121 : decode cX11_folds 121 = .ok (.iload_n 1, 1) := by decide +kernel
theorem dX11_folds_122 : decode cX11_folds 122 = .ok (.invokevirtual 71, 3) := by decide +kernel
theorem dX11_folds_125 : decode cX11_folds 125 = .ok (.return_, 1) := by decide +kernel
theorem dX11_plainLay_0 : decode cX11_plainLay 0 = .ok (.aload_n 0, 1) := by decide +kernel
theorem dX11_plainLay_1 : decode cX11_plainLay 1 = .ok (.iconst 2, 1) := by decide +kernel
theorem dX11_plainLay_2 : decode cX11_plainLay 2 = .ok (.iconst 0, 1) := by decide +kernel
theorem dX11_plainLay_3 : decode cX11_plainLay 3 = .ok (.invokevirtual 51, 3) := by decide +kernel
theorem dX11_plainLay_6 : decode cX11_plainLay 6 = .ok (.aload_n 0, 1) := by decide +kernel
theorem dX11_plainLay_7 : decode cX11_plainLay 7 = .ok (.getfield 28, 3) := by decide +kernel
theorem dX11_plainLay_10 : decode cX11_plainLay 10 = .ok (.iload_n 2, 1) := by decide +kernel
theorem dX11_plainLay_11 : decode cX11_plainLay 11 = .ok (.iaload, 1) := by decide +kernel
theorem dX11_plainLay_12 : decode cX11_plainLay 12 = .ok (.iconst (-1), 1) := by decide +kernel
theorem dX11_plainLay_13 : decode cX11_plainLay 13 = .ok (.if_icmp .ne 7, 3) := by decide +kernel
theorem dX11_plainLay_16 : decode cX11_plainLay 16 = .ok (.iconst 1, 1) := by decide +kernel
theorem dX11_plainLay_17 : decode cX11_plainLay 17 = .ok (.goto 24, 3) := by decide +kernel
theorem dX11_plainLay_20 : decode cX11_plainLay 20 = .ok (.iload_n 3, 1) := by decide +kernel
theorem dX11_plainLay_21 : decode cX11_plainLay 21 = .ok (.iconst 0, 1) := by decide +kernel
theorem dX11_plainLay_22 : decode cX11_plainLay 22 = .ok (.aload_n 0, 1) := by decide +kernel
theorem dX11_plainLay_23 : decode cX11_plainLay 23 = .ok (.getfield 28, 3) := by decide +kernel
theorem dX11_plainLay_26 : decode cX11_plainLay 26 = .ok (.iload_n 2, 1) := by decide +kernel
theorem dX11_plainLay_27 : decode cX11_plainLay 27 = .ok (.iaload, 1) := by decide +kernel
theorem dX11_plainLay_28 : decode cX11_plainLay 28 = .ok (.iconst 1, 1) := by decide +kernel
theorem dX11_plainLay_29 : decode cX11_plainLay 29 = .ok (.isub, 1) := by decide +kernel
theorem dX11_plainLay_30 : decode cX11_plainLay 30 = .ok (.invokestatic 44, 3) := by decide +kernel
theorem dX11_plainLay_33 : decode cX11_plainLay 33 = .ok (.ifCond .eq 7, 3) := by decide +kernel
theorem dX11_plainLay_36 : decode cX11_plainLay 36 = .ok (.iconst 0, 1) := by decide +kernel
theorem dX11_plainLay_37 : decode cX11_plainLay 37 = .ok (.goto 4, 3) := by decide +kernel
theorem dX11_plainLay_40 : decode cX11_plainLay 40 = .ok (.iconst 2, 1) := by decide +kernel
theorem dX11_plainLay_41 : decode cX11_plainLay 41 = .ok (.istore 4, 2) := by decide +kernel
theorem dX11_plainLay_43 : decode cX11_plainLay 43 = .ok (.iload 4, 2) := by decide +kernel
theorem dX11_plainLay_45 : decode cX11_plainLay 45 = .ok (.ifCond .ne 15, 3) := by decide +kernel
theorem dX11_plainLay_48 : decode cX11_plainLay 48 = .ok (.aload_n 0, 1) := by decide +kernel
theorem dX11_plainLay_49 : decode cX11_plainLay 49 = .ok (.getfield 31, 3) := by decide +kernel
theorem dX11_plainLay_52 : decode cX11_plainLay 52 = .ok (.bipush 8, 2) := by decide +kernel
theorem dX11_plainLay_54 : decode cX11_plainLay 54 = .ok (.iload_n 2, 1) := by decide +kernel
theorem dX11_plainLay_55 : decode cX11_plainLay 55 = .ok (.imul, 1) := by decide +kernel
theorem dX11_plainLay_56 : decode cX11_plainLay 56 = .ok (.iload_n 3, 1) := by decide +kernel
theorem dX11_plainLay_57 : decode cX11_plainLay 57 = .ok (.iadd, 1) := by decide +kernel
theorem dX11_plainLay_58 : decode cX11_plainLay 58 = .ok (.iload_n 1, 1) := by decide +kernel
theorem dX11_plainLay_59 : decode cX11_plainLay 59 = .ok (.iastore, 1) := by decide +kernel
theorem dX11_plainLay_60 : decode cX11_plainLay 60 = .ok (.iload 4, 2) := by decide +kernel
theorem dX11_plainLay_62 : decode cX11_plainLay 62 = .ok (.ireturn, 1) := by decide +kernel
theorem dX11_lays_0 : decode cX11_lays 0 = .ok (.aload_n 0, 1) := by decide +kernel
theorem dX11_lays_1 : decode cX11_lays 1 = .ok (.getfield 7, 3) := by decide +kernel
theorem dX11_lays_4 : decode cX11_lays 4 = .ok (.iload_n 1, 1) := by decide +kernel
theorem dX11_lays_5 : decode cX11_lays 5 = .ok (.iaload, 1) := by decide +kernel
theorem dX11_lays_6 : decode cX11_lays 6 = .ok (.tableswitch 98 5 7 #[26, 61, 78], 26) := by decide +kernel
theorem dX11_lays_32 : decode cX11_lays 32 = .ok (.aload_n 0, 1) := by decide +kernel
theorem dX11_lays_33 : decode cX11_lays 33 = .ok (.iconst 2, 1) := by decide +kernel
theorem dX11_lays_34 : decode cX11_lays 34 = .ok (.iconst 5, 1) := by decide +kernel
theorem dX11_lays_35 : decode cX11_lays 35 = .ok (.invokevirtual 51, 3) := by decide +kernel
theorem dX11_lays_38 : decode cX11_lays 38 = .ok (.aload_n 0, 1) := by decide +kernel
theorem dX11_lays_39 : decode cX11_lays 39 = .ok (.iload_n 1, 1) := by decide +kernel
theorem dX11_lays_40 : decode cX11_lays 40 = .ok (.iload_n 2, 1) := by decide +kernel
theorem dX11_lays_41 : decode cX11_lays 41 = .ok (.iload_n 3, 1) := by decide +kernel
theorem dX11_lays_42 : decode cX11_lays 42 = .ok (.invokevirtual 75, 3) := by decide +kernel
theorem dX11_lays_45 : decode cX11_lays 45 = .ok (.istore 4, 2) := by decide +kernel
theorem dX11_lays_47 : decode cX11_lays 47 = .ok (.iload 4, 2) := by decide +kernel
theorem dX11_lays_49 : decode cX11_lays 49 = .ok (.ifCond .le 8, 3) := by decide +kernel
theorem dX11_lays_52 : decode cX11_lays 52 = .ok (.iload 4, 2) := by decide +kernel
theorem dX11_lays_54 : decode cX11_lays 54 = .ok (.goto 12, 3) := by decide +kernel
theorem dX11_lays_57 : decode cX11_lays 57 = .ok (.aload_n 0, 1) := by decide +kernel
theorem dX11_lays_58 : decode cX11_lays 58 = .ok (.iload_n 1, 1) := by decide +kernel
theorem dX11_lays_59 : decode cX11_lays 59 = .ok (.iload_n 2, 1) := by decide +kernel
theorem dX11_lays_60 : decode cX11_lays 60 = .ok (.iload_n 3, 1) := by decide +kernel
theorem dX11_lays_61 : decode cX11_lays 61 = .ok (.iconst 1, 1) := by decide +kernel
theorem dX11_lays_62 : decode cX11_lays 62 = .ok (.iadd, 1) := by decide +kernel
theorem dX11_lays_63 : decode cX11_lays 63 = .ok (.invokevirtual 75, 3) := by decide +kernel
theorem dX11_lays_66 : decode cX11_lays 66 = .ok (.ireturn, 1) := by decide +kernel
theorem dX11_lays_67 : decode cX11_lays 67 = .ok (.aload_n 0, 1) := by decide +kernel
theorem dX11_lays_68 : decode cX11_lays 68 = .ok (.iconst 2, 1) := by decide +kernel
theorem dX11_lays_69 : decode cX11_lays 69 = .ok (.bipush 6, 2) := by decide +kernel
theorem dX11_lays_71 : decode cX11_lays 71 = .ok (.invokevirtual 51, 3) := by decide +kernel
theorem dX11_lays_74 : decode cX11_lays 74 = .ok (.aload_n 0, 1) := by decide +kernel
theorem dX11_lays_75 : decode cX11_lays 75 = .ok (.iload_n 1, 1) := by decide +kernel
theorem dX11_lays_76 : decode cX11_lays 76 = .ok (.iload_n 2, 1) := by decide +kernel
theorem dX11_lays_77 : decode cX11_lays 77 = .ok (.iload_n 3, 1) := by decide +kernel
theorem dX11_lays_78 : decode cX11_lays 78 = .ok (.iconst 2, 1) := by decide +kernel
theorem dX11_lays_79 : decode cX11_lays 79 = .ok (.idiv, 1) := by decide +kernel
theorem dX11_lays_80 : decode cX11_lays 80 = .ok (.invokevirtual 75, 3) := by decide +kernel
theorem dX11_lays_83 : decode cX11_lays 83 = .ok (.ireturn, 1) := by decide +kernel
theorem dX11_lays_84 : decode cX11_lays 84 = .ok (.aload_n 0, 1) := by decide +kernel
theorem dX11_lays_85 : decode cX11_lays 85 = .ok (.iconst 2, 1) := by decide +kernel
theorem dX11_lays_86 : decode cX11_lays 86 = .ok (.bipush 7, 2) := by decide +kernel
theorem dX11_lays_88 : decode cX11_lays 88 = .ok (.invokevirtual 51, 3) := by decide +kernel
theorem dX11_lays_91 : decode cX11_lays 91 = .ok (.aload_n 0, 1) := by decide +kernel
theorem dX11_lays_92 : decode cX11_lays 92 = .ok (.iload_n 1, 1) := by decide +kernel
theorem dX11_lays_93 : decode cX11_lays 93 = .ok (.invokevirtual 79, 3) := by decide +kernel
theorem dX11_lays_96 : decode cX11_lays 96 = .ok (.aload_n 0, 1) := by decide +kernel
theorem dX11_lays_97 : decode cX11_lays 97 = .ok (.iload_n 1, 1) := by decide +kernel
theorem dX11_lays_98 : decode cX11_lays 98 = .ok (.iload_n 2, 1) := by decide +kernel
theorem dX11_lays_99 : decode cX11_lays 99 = .ok (.iload_n 3, 1) := by decide +kernel
theorem dX11_lays_100 : decode cX11_lays 100 = .ok (.invokevirtual 75, 3) := by decide +kernel
theorem dX11_lays_103 : decode cX11_lays 103 = .ok (.ireturn, 1) := by decide +kernel
theorem dX11_lays_104 : decode cX11_lays 104 = .ok (.aload_n 0, 1) := by decide +kernel
theorem dX11_lays_105 : decode cX11_lays 105 = .ok (.iload_n 1, 1) := by decide +kernel
theorem dX11_lays_106 : decode cX11_lays 106 = .ok (.iload_n 2, 1) := by decide +kernel
theorem dX11_lays_107 : decode cX11_lays 107 = .ok (.iload_n 3, 1) := by decide +kernel
theorem dX11_lays_108 : decode cX11_lays 108 = .ok (.invokevirtual 75, 3) := by decide +kernel
theorem dX11_lays_111 : decode cX11_lays 111 = .ok (.ireturn, 1) := by decide +kernel
theorem dX11_plainBake_0 : decode cX11_plainBake 0 = .ok (.aload_n 0, 1) := by decide +kernel
theorem dX11_plainBake_1 : decode cX11_plainBake 1 = .ok (.iconst 3, 1) := by decide +kernel
theorem dX11_plainBake_2 : decode cX11_plainBake 2 = .ok (.iconst 0, 1) := by decide +kernel
theorem dX11_plainBake_3 : decode cX11_plainBake 3 = .ok (.invokevirtual 51, 3) := by decide +kernel
theorem dX11_plainBake_6 : decode cX11_plainBake 6 = .ok (.aload_n 0, 1) := by decide +kernel
theorem dX11_plainBake_7 : decode cX11_plainBake 7 = .ok (.getfield 25, 3) := by decide +kernel
theorem dX11_plainBake_10 : decode cX11_plainBake 10 = .ok (.iload_n 1, 1) := by decide +kernel
theorem dX11_plainBake_11 : decode cX11_plainBake 11 = .ok (.dup2, 1) := by decide +kernel
theorem dX11_plainBake_12 : decode cX11_plainBake 12 = .ok (.iaload, 1) := by decide +kernel
theorem dX11_plainBake_13 : decode cX11_plainBake 13 = .ok (.iload_n 2, 1) := by decide +kernel
theorem dX11_plainBake_14 : decode cX11_plainBake 14 = .ok (.aload_n 0, 1) := by decide +kernel
theorem dX11_plainBake_15 : decode cX11_plainBake 15 = .ok (.getfield 16, 3) := by decide +kernel
theorem dX11_plainBake_18 : decode cX11_plainBake 18 = .ok (.iload_n 1, 1) := by decide +kernel
theorem dX11_plainBake_19 : decode cX11_plainBake 19 = .ok (.iaload, 1) := by decide +kernel
theorem dX11_plainBake_20 : decode cX11_plainBake 20 = .ok (.iadd, 1) := by decide +kernel
theorem dX11_plainBake_21 : decode cX11_plainBake 21 = .ok (.bipush 10, 2) := by decide +kernel
theorem dX11_plainBake_23 : decode cX11_plainBake 23 = .ok (.idiv, 1) := by decide +kernel
theorem dX11_plainBake_24 : decode cX11_plainBake 24 = .ok (.iadd, 1) := by decide +kernel
theorem dX11_plainBake_25 : decode cX11_plainBake 25 = .ok (.iastore, 1) := by decide +kernel
theorem dX11_plainBake_26 : decode cX11_plainBake 26 = .ok (.aload_n 0, 1) := by decide +kernel
theorem dX11_plainBake_27 : decode cX11_plainBake 27 = .ok (.getfield 25, 3) := by decide +kernel
theorem dX11_plainBake_30 : decode cX11_plainBake 30 = .ok (.iload_n 1, 1) := by decide +kernel
theorem dX11_plainBake_31 : decode cX11_plainBake 31 = .ok (.iaload, 1) := by decide +kernel
theorem dX11_plainBake_32 : decode cX11_plainBake 32 = .ok (.bipush 20, 2) := by decide +kernel
theorem dX11_plainBake_34 : decode cX11_plainBake 34 = .ok (.if_icmp .lt 7, 3) := by decide +kernel
theorem dX11_plainBake_37 : decode cX11_plainBake 37 = .ok (.iconst 1, 1) := by decide +kernel
theorem dX11_plainBake_38 : decode cX11_plainBake 38 = .ok (.goto 4, 3) := by decide +kernel
theorem dX11_plainBake_41 : decode cX11_plainBake 41 = .ok (.iconst 0, 1) := by decide +kernel
theorem dX11_plainBake_42 : decode cX11_plainBake 42 = .ok (.ireturn, 1) := by decide +kernel
theorem dX11_bakes_0 : decode cX11_bakes 0 = .ok (.aload_n 0, 1) := by decide +kernel
theorem dX11_bakes_1 : decode cX11_bakes 1 = .ok (.getfield 7, 3) := by decide +kernel
theorem dX11_bakes_4 : decode cX11_bakes 4 = .ok (.iload_n 1, 1) := by decide +kernel
theorem dX11_bakes_5 : decode cX11_bakes 5 = .ok (.iaload, 1) := by decide +kernel
theorem dX11_bakes_6 : decode cX11_bakes 6 = .ok (.tableswitch 146 2 7 #[38, 54, 88, 54, 130, 88], 38) := by decide +kernel
theorem dX11_bakes_44 : decode cX11_bakes 44 = .ok (.aload_n 0, 1) := by decide +kernel
theorem dX11_bakes_45 : decode cX11_bakes 45 = .ok (.iconst 3, 1) := by decide +kernel
theorem dX11_bakes_46 : decode cX11_bakes 46 = .ok (.iconst 2, 1) := by decide +kernel
theorem dX11_bakes_47 : decode cX11_bakes 47 = .ok (.invokevirtual 51, 3) := by decide +kernel
theorem dX11_bakes_50 : decode cX11_bakes 50 = .ok (.aload_n 0, 1) := by decide +kernel
theorem dX11_bakes_51 : decode cX11_bakes 51 = .ok (.iload_n 1, 1) := by decide +kernel
theorem dX11_bakes_52 : decode cX11_bakes 52 = .ok (.iload_n 2, 1) := by decide +kernel
theorem dX11_bakes_53 : decode cX11_bakes 53 = .ok (.bipush 30, 2) := by decide +kernel
theorem dX11_bakes_55 : decode cX11_bakes 55 = .ok (.isub, 1) := by decide +kernel
theorem dX11_bakes_56 : decode cX11_bakes 56 = .ok (.invokevirtual 81, 3) := by decide +kernel
theorem dX11_bakes_59 : decode cX11_bakes 59 = .ok (.ireturn, 1) := by decide +kernel
theorem dX11_bakes_60 : decode cX11_bakes 60 = .ok (.aload_n 0, 1) := by decide +kernel
theorem dX11_bakes_61 : decode cX11_bakes 61 = .ok (.iconst 3, 1) := by decide +kernel
theorem dX11_bakes_62 : decode cX11_bakes 62 = .ok (.iconst 3, 1) := by decide +kernel
theorem dX11_bakes_63 : decode cX11_bakes 63 = .ok (.invokevirtual 51, 3) := by decide +kernel
theorem dX11_bakes_66 : decode cX11_bakes 66 = .ok (.aload_n 0, 1) := by decide +kernel
theorem dX11_bakes_67 : decode cX11_bakes 67 = .ok (.iload_n 1, 1) := by decide +kernel
theorem dX11_bakes_68 : decode cX11_bakes 68 = .ok (.iload_n 2, 1) := by decide +kernel
theorem dX11_bakes_69 : decode cX11_bakes 69 = .ok (.invokevirtual 81, 3) := by decide +kernel
theorem dX11_bakes_72 : decode cX11_bakes 72 = .ok (.istore_n 3, 1) := by decide +kernel
theorem dX11_bakes_73 : decode cX11_bakes 73 = .ok (.iload_n 3, 1) := by decide +kernel
theorem dX11_bakes_74 : decode cX11_bakes 74 = .ok (.ifCond .eq 18, 3) := by decide +kernel
theorem dX11_bakes_77 : decode cX11_bakes 77 = .ok (.aload_n 0, 1) := by decide +kernel
theorem dX11_bakes_78 : decode cX11_bakes 78 = .ok (.getfield 25, 3) := by decide +kernel
theorem dX11_bakes_81 : decode cX11_bakes 81 = .ok (.iload_n 1, 1) := by decide +kernel
theorem dX11_bakes_82 : decode cX11_bakes 82 = .ok (.iaload, 1) := by decide +kernel
theorem dX11_bakes_83 : decode cX11_bakes 83 = .ok (.bipush 60, 2) := by decide +kernel
theorem dX11_bakes_85 : decode cX11_bakes 85 = .ok (.if_icmp .gt 7, 3) := by decide +kernel
theorem dX11_bakes_88 : decode cX11_bakes 88 = .ok (.iconst 1, 1) := by decide +kernel
theorem dX11_bakes_89 : decode cX11_bakes 89 = .ok (.goto 4, 3) := by decide +kernel
theorem dX11_bakes_92 : decode cX11_bakes 92 = .ok (.iconst 0, 1) := by decide +kernel
theorem dX11_bakes_93 : decode cX11_bakes 93 = .ok (.ireturn, 1) := by decide +kernel
theorem dX11_bakes_94 : decode cX11_bakes 94 = .ok (.aload_n 0, 1) := by decide +kernel
theorem dX11_bakes_95 : decode cX11_bakes 95 = .ok (.iconst 3, 1) := by decide +kernel
theorem dX11_bakes_96 : decode cX11_bakes 96 = .ok (.iconst 4, 1) := by decide +kernel
theorem dX11_bakes_97 : decode cX11_bakes 97 = .ok (.invokevirtual 51, 3) := by decide +kernel
theorem dX11_bakes_100 : decode cX11_bakes 100 = .ok (.aload_n 0, 1) := by decide +kernel
theorem dX11_bakes_101 : decode cX11_bakes 101 = .ok (.iconst 3, 1) := by decide +kernel
theorem dX11_bakes_102 : decode cX11_bakes 102 = .ok (.iconst 2, 1) := by decide +kernel
theorem dX11_bakes_103 : decode cX11_bakes 103 = .ok (.invokevirtual 51, 3) := by decide +kernel
theorem dX11_bakes_106 : decode cX11_bakes 106 = .ok (.aload_n 0, 1) := by decide +kernel
theorem dX11_bakes_107 : decode cX11_bakes 107 = .ok (.iload_n 1, 1) := by decide +kernel
theorem dX11_bakes_108 : decode cX11_bakes 108 = .ok (.iload_n 2, 1) := by decide +kernel
theorem dX11_bakes_109 : decode cX11_bakes 109 = .ok (.bipush 30, 2) := by decide +kernel
theorem dX11_bakes_111 : decode cX11_bakes 111 = .ok (.isub, 1) := by decide +kernel
theorem dX11_bakes_112 : decode cX11_bakes 112 = .ok (.invokevirtual 81, 3) := by decide +kernel
theorem dX11_bakes_115 : decode cX11_bakes 115 = .ok (.istore_n 3, 1) := by decide +kernel
theorem dX11_bakes_116 : decode cX11_bakes 116 = .ok (.iload_n 3, 1) := by decide +kernel
theorem dX11_bakes_117 : decode cX11_bakes 117 = .ok (.ifCond .ne 13, 3) := by decide +kernel
theorem dX11_bakes_120 : decode cX11_bakes 120 = .ok (.aload_n 0, 1) := by decide +kernel
theorem dX11_bakes_121 : decode cX11_bakes 121 = .ok (.getfield 22, 3) := by decide +kernel
theorem dX11_bakes_124 : decode cX11_bakes 124 = .ok (.iload_n 1, 1) := by decide +kernel
theorem dX11_bakes_125 : decode cX11_bakes 125 = .ok (.iaload, 1) := by decide +kernel
theorem dX11_bakes_126 : decode cX11_bakes 126 = .ok (.iconst 5, 1) := by decide +kernel
theorem dX11_bakes_127 : decode cX11_bakes 127 = .ok (.if_icmp .le 7, 3) := by decide +kernel
theorem dX11_bakes_130 : decode cX11_bakes 130 = .ok (.iconst 1, 1) := by decide +kernel
theorem dX11_bakes_131 : decode cX11_bakes 131 = .ok (.goto 4, 3) := by decide +kernel
theorem dX11_bakes_134 : decode cX11_bakes 134 = .ok (.iconst 0, 1) := by decide +kernel
theorem dX11_bakes_135 : decode cX11_bakes 135 = .ok (.ireturn, 1) := by decide +kernel
theorem dX11_bakes_136 : decode cX11_bakes 136 = .ok (.aload_n 0, 1) := by decide +kernel
theorem dX11_bakes_137 : decode cX11_bakes 137 = .ok (.iconst 3, 1) := by decide +kernel
theorem dX11_bakes_138 : decode cX11_bakes 138 = .ok (.bipush 6, 2) := by decide +kernel
theorem dX11_bakes_140 : decode cX11_bakes 140 = .ok (.invokevirtual 51, 3) := by decide +kernel
theorem dX11_bakes_143 : decode cX11_bakes 143 = .ok (.aload_n 0, 1) := by decide +kernel
theorem dX11_bakes_144 : decode cX11_bakes 144 = .ok (.iload_n 1, 1) := by decide +kernel
theorem dX11_bakes_145 : decode cX11_bakes 145 = .ok (.iconst 2, 1) := by decide +kernel
theorem dX11_bakes_146 : decode cX11_bakes 146 = .ok (.iload_n 2, 1) := by decide +kernel
theorem dX11_bakes_147 : decode cX11_bakes 147 = .ok (.imul, 1) := by decide +kernel
theorem dX11_bakes_148 : decode cX11_bakes 148 = .ok (.invokevirtual 81, 3) := by decide +kernel
theorem dX11_bakes_151 : decode cX11_bakes 151 = .ok (.ireturn, 1) := by decide +kernel
theorem dX11_bakes_152 : decode cX11_bakes 152 = .ok (.aload_n 0, 1) := by decide +kernel
theorem dX11_bakes_153 : decode cX11_bakes 153 = .ok (.iload_n 1, 1) := by decide +kernel
theorem dX11_bakes_154 : decode cX11_bakes 154 = .ok (.iload_n 2, 1) := by decide +kernel
theorem dX11_bakes_155 : decode cX11_bakes 155 = .ok (.invokevirtual 81, 3) := by decide +kernel
theorem dX11_bakes_158 : decode cX11_bakes 158 = .ok (.ireturn, 1) := by decide +kernel
theorem dX11_plainWorth_0 : decode cX11_plainWorth 0 = .ok (.aload_n 0, 1) := by decide +kernel
theorem dX11_plainWorth_1 : decode cX11_plainWorth 1 = .ok (.iconst 4, 1) := by decide +kernel
theorem dX11_plainWorth_2 : decode cX11_plainWorth 2 = .ok (.iconst 0, 1) := by decide +kernel
theorem dX11_plainWorth_3 : decode cX11_plainWorth 3 = .ok (.invokevirtual 51, 3) := by decide +kernel
theorem dX11_plainWorth_6 : decode cX11_plainWorth 6 = .ok (.aload_n 0, 1) := by decide +kernel
theorem dX11_plainWorth_7 : decode cX11_plainWorth 7 = .ok (.getfield 13, 3) := by decide +kernel
theorem dX11_plainWorth_10 : decode cX11_plainWorth 10 = .ok (.iload_n 1, 1) := by decide +kernel
theorem dX11_plainWorth_11 : decode cX11_plainWorth 11 = .ok (.iaload, 1) := by decide +kernel
theorem dX11_plainWorth_12 : decode cX11_plainWorth 12 = .ok (.bipush 10, 2) := by decide +kernel
theorem dX11_plainWorth_14 : decode cX11_plainWorth 14 = .ok (.idiv, 1) := by decide +kernel
theorem dX11_plainWorth_15 : decode cX11_plainWorth 15 = .ok (.iconst 2, 1) := by decide +kernel
theorem dX11_plainWorth_16 : decode cX11_plainWorth 16 = .ok (.aload_n 0, 1) := by decide +kernel
theorem dX11_plainWorth_17 : decode cX11_plainWorth 17 = .ok (.getfield 19, 3) := by decide +kernel
theorem dX11_plainWorth_20 : decode cX11_plainWorth 20 = .ok (.iload_n 1, 1) := by decide +kernel
theorem dX11_plainWorth_21 : decode cX11_plainWorth 21 = .ok (.iaload, 1) := by decide +kernel
theorem dX11_plainWorth_22 : decode cX11_plainWorth 22 = .ok (.imul, 1) := by decide +kernel
theorem dX11_plainWorth_23 : decode cX11_plainWorth 23 = .ok (.iadd, 1) := by decide +kernel
theorem dX11_plainWorth_24 : decode cX11_plainWorth 24 = .ok (.ireturn, 1) := by decide +kernel
theorem dX11_worthOf_0 : decode cX11_worthOf 0 = .ok (.aload_n 0, 1) := by decide +kernel
theorem dX11_worthOf_1 : decode cX11_worthOf 1 = .ok (.iconst 0, 1) := by decide +kernel
theorem dX11_worthOf_2 : decode cX11_worthOf 2 = .ok (.putfield 85, 3) := by decide +kernel
theorem dX11_worthOf_5 : decode cX11_worthOf 5 = .ok (.aload_n 0, 1) := by decide +kernel
theorem dX11_worthOf_6 : decode cX11_worthOf 6 = .ok (.getfield 7, 3) := by decide +kernel
theorem dX11_worthOf_9 : decode cX11_worthOf 9 = .ok (.iload_n 1, 1) := by decide +kernel
theorem dX11_worthOf_10 : decode cX11_worthOf 10 = .ok (.iaload, 1) := by decide +kernel
theorem dX11_worthOf_11 : decode cX11_worthOf 11 = .ok (.tableswitch 173 4 7 #[29, 91, 105, 48], 29) := by decide +kernel
theorem dX11_worthOf_40 : decode cX11_worthOf 40 = .ok (.aload_n 0, 1) := by decide +kernel
theorem dX11_worthOf_41 : decode cX11_worthOf 41 = .ok (.iconst 4, 1) := by decide +kernel
theorem dX11_worthOf_42 : decode cX11_worthOf 42 = .ok (.iconst 4, 1) := by decide +kernel
theorem dX11_worthOf_43 : decode cX11_worthOf 43 = .ok (.invokevirtual 51, 3) := by decide +kernel
theorem dX11_worthOf_46 : decode cX11_worthOf 46 = .ok (.aload_n 0, 1) := by decide +kernel
theorem dX11_worthOf_47 : decode cX11_worthOf 47 = .ok (.iload_n 1, 1) := by decide +kernel
theorem dX11_worthOf_48 : decode cX11_worthOf 48 = .ok (.invokevirtual 88, 3) := by decide +kernel
theorem dX11_worthOf_51 : decode cX11_worthOf 51 = .ok (.aload_n 0, 1) := by decide +kernel
theorem dX11_worthOf_52 : decode cX11_worthOf 52 = .ok (.getfield 22, 3) := by decide +kernel
theorem dX11_worthOf_55 : decode cX11_worthOf 55 = .ok (.iload_n 1, 1) := by decide +kernel
theorem dX11_worthOf_56 : decode cX11_worthOf 56 = .ok (.iaload, 1) := by decide +kernel
theorem dX11_worthOf_57 : decode cX11_worthOf 57 = .ok (.iadd, 1) := by decide +kernel
theorem dX11_worthOf_58 : decode cX11_worthOf 58 = .ok (.ireturn, 1) := by decide +kernel
theorem dX11_worthOf_59 : decode cX11_worthOf 59 = .ok (.aload_n 0, 1) := by decide +kernel
theorem dX11_worthOf_60 : decode cX11_worthOf 60 = .ok (.iconst 4, 1) := by decide +kernel
theorem dX11_worthOf_61 : decode cX11_worthOf 61 = .ok (.bipush 7, 2) := by decide +kernel
theorem dX11_worthOf_63 : decode cX11_worthOf 63 = .ok (.invokevirtual 51, 3) := by decide +kernel
theorem dX11_worthOf_66 : decode cX11_worthOf 66 = .ok (.aload_n 0, 1) := by decide +kernel
theorem dX11_worthOf_67 : decode cX11_worthOf 67 = .ok (.iconst 4, 1) := by decide +kernel
theorem dX11_worthOf_68 : decode cX11_worthOf 68 = .ok (.iconst 4, 1) := by decide +kernel
theorem dX11_worthOf_69 : decode cX11_worthOf 69 = .ok (.invokevirtual 51, 3) := by decide +kernel
theorem dX11_worthOf_72 : decode cX11_worthOf 72 = .ok (.aload_n 0, 1) := by decide +kernel
theorem dX11_worthOf_73 : decode cX11_worthOf 73 = .ok (.iload_n 1, 1) := by decide +kernel
theorem dX11_worthOf_74 : decode cX11_worthOf 74 = .ok (.invokevirtual 88, 3) := by decide +kernel
theorem dX11_worthOf_77 : decode cX11_worthOf 77 = .ok (.aload_n 0, 1) := by decide +kernel
theorem dX11_worthOf_78 : decode cX11_worthOf 78 = .ok (.getfield 22, 3) := by decide +kernel
theorem dX11_worthOf_81 : decode cX11_worthOf 81 = .ok (.iload_n 1, 1) := by decide +kernel
theorem dX11_worthOf_82 : decode cX11_worthOf 82 = .ok (.iaload, 1) := by decide +kernel
theorem dX11_worthOf_83 : decode cX11_worthOf 83 = .ok (.iadd, 1) := by decide +kernel
theorem dX11_worthOf_84 : decode cX11_worthOf 84 = .ok (.aload_n 0, 1) := by decide +kernel
theorem dX11_worthOf_85 : decode cX11_worthOf 85 = .ok (.getfield 25, 3) := by decide +kernel
theorem dX11_worthOf_88 : decode cX11_worthOf 88 = .ok (.iload_n 1, 1) := by decide +kernel
theorem dX11_worthOf_89 : decode cX11_worthOf 89 = .ok (.iaload, 1) := by decide +kernel
theorem dX11_worthOf_90 : decode cX11_worthOf 90 = .ok (.bipush 20, 2) := by decide +kernel
theorem dX11_worthOf_92 : decode cX11_worthOf 92 = .ok (.if_icmp .lt 7, 3) := by decide +kernel
theorem dX11_worthOf_95 : decode cX11_worthOf 95 = .ok (.iconst 5, 1) := by decide +kernel
theorem dX11_worthOf_96 : decode cX11_worthOf 96 = .ok (.goto 4, 3) := by decide +kernel
theorem dX11_worthOf_99 : decode cX11_worthOf 99 = .ok (.iconst 0, 1) := by decide +kernel
theorem dX11_worthOf_100 : decode cX11_worthOf 100 = .ok (.iadd, 1) := by decide +kernel
theorem dX11_worthOf_101 : decode cX11_worthOf 101 = .ok (.ireturn, 1) := by decide +kernel
theorem dX11_worthOf_102 : decode cX11_worthOf 102 = .ok (.aload_n 0, 1) := by decide +kernel
theorem dX11_worthOf_103 : decode cX11_worthOf 103 = .ok (.iconst 4, 1) := by decide +kernel
theorem dX11_worthOf_104 : decode cX11_worthOf 104 = .ok (.iconst 5, 1) := by decide +kernel
theorem dX11_worthOf_105 : decode cX11_worthOf 105 = .ok (.invokevirtual 51, 3) := by decide +kernel
theorem dX11_worthOf_108 : decode cX11_worthOf 108 = .ok (.iconst 2, 1) := by decide +kernel
theorem dX11_worthOf_109 : decode cX11_worthOf 109 = .ok (.aload_n 0, 1) := by decide +kernel
theorem dX11_worthOf_110 : decode cX11_worthOf 110 = .ok (.iload_n 1, 1) := by decide +kernel
theorem dX11_worthOf_111 : decode cX11_worthOf 111 = .ok (.invokevirtual 88, 3) := by decide +kernel
theorem dX11_worthOf_114 : decode cX11_worthOf 114 = .ok (.imul, 1) := by decide +kernel
theorem dX11_worthOf_115 : decode cX11_worthOf 115 = .ok (.ireturn, 1) := by decide +kernel
theorem dX11_worthOf_116 : decode cX11_worthOf 116 = .ok (.aload_n 0, 1) := by decide +kernel
theorem dX11_worthOf_117 : decode cX11_worthOf 117 = .ok (.iconst 4, 1) := by decide +kernel
theorem dX11_worthOf_118 : decode cX11_worthOf 118 = .ok (.bipush 6, 2) := by decide +kernel
theorem dX11_worthOf_120 : decode cX11_worthOf 120 = .ok (.invokevirtual 51, 3) := by decide +kernel
theorem dX11_worthOf_123 : decode cX11_worthOf 123 = .ok (.aload_n 0, 1) := by decide +kernel
theorem dX11_worthOf_124 : decode cX11_worthOf 124 = .ok (.aload_n 0, 1) := by decide +kernel
theorem dX11_worthOf_125 : decode cX11_worthOf 125 = .ok (.getfield 25, 3) := by decide +kernel
theorem dX11_worthOf_128 : decode cX11_worthOf 128 = .ok (.iload_n 1, 1) := by decide +kernel
theorem dX11_worthOf_129 : decode cX11_worthOf 129 = .ok (.iaload, 1) := by decide +kernel
theorem dX11_worthOf_130 : decode cX11_worthOf 130 = .ok (.ifCond .ne 7, 3) := by decide +kernel
theorem dX11_worthOf_133 : decode cX11_worthOf 133 = .ok (.iconst 1, 1) := by decide +kernel
theorem dX11_worthOf_134 : decode cX11_worthOf 134 = .ok (.goto 4, 3) := by decide +kernel
theorem dX11_worthOf_137 : decode cX11_worthOf 137 = .ok (.iconst 0, 1) := by decide +kernel
theorem dX11_worthOf_138 : decode cX11_worthOf 138 = .ok (.putfield 85, 3) := by decide +kernel
theorem dX11_worthOf_141 : decode cX11_worthOf 141 = .ok (.aload_n 0, 1) := by decide +kernel
theorem dX11_worthOf_142 : decode cX11_worthOf 142 = .ok (.dup, 1) := by decide +kernel
theorem dX11_worthOf_143 : decode cX11_worthOf 143 = .ok (.getfield 92, 3) := by decide +kernel
theorem dX11_worthOf_146 : decode cX11_worthOf 146 = .ok (.aload_n 0, 1) := by decide +kernel
theorem dX11_worthOf_147 : decode cX11_worthOf 147 = .ok (.getfield 85, 3) := by decide +kernel
theorem dX11_worthOf_150 : decode cX11_worthOf 150 = .ok (.ifCond .eq 7, 3) := by decide +kernel
theorem dX11_worthOf_153 : decode cX11_worthOf 153 = .ok (.iconst 1, 1) := by decide +kernel
theorem dX11_worthOf_154 : decode cX11_worthOf 154 = .ok (.goto 4, 3) := by decide +kernel
theorem dX11_worthOf_157 : decode cX11_worthOf 157 = .ok (.iconst 0, 1) := by decide +kernel
theorem dX11_worthOf_158 : decode cX11_worthOf 158 = .ok (.iadd, 1) := by decide +kernel
theorem dX11_worthOf_159 : decode cX11_worthOf 159 = .ok (.putfield 92, 3) := by decide +kernel
theorem dX11_worthOf_162 : decode cX11_worthOf 162 = .ok (.aload_n 0, 1) := by decide +kernel
theorem dX11_worthOf_163 : decode cX11_worthOf 163 = .ok (.getfield 85, 3) := by decide +kernel
theorem dX11_worthOf_166 : decode cX11_worthOf 166 = .ok (.ifCond .eq 7, 3) := by decide +kernel
theorem dX11_worthOf_169 : decode cX11_worthOf 169 = .ok (.iconst 0, 1) := by decide +kernel
theorem dX11_worthOf_170 : decode cX11_worthOf 170 = .ok (.goto 13, 3) := by decide +kernel
theorem dX11_worthOf_173 : decode cX11_worthOf 173 = .ok (.sipush 1000, 3) := by decide +kernel
theorem dX11_worthOf_176 : decode cX11_worthOf 176 = .ok (.aload_n 0, 1) := by decide +kernel
theorem dX11_worthOf_177 : decode cX11_worthOf 177 = .ok (.getfield 25, 3) := by decide +kernel
theorem dX11_worthOf_180 : decode cX11_worthOf 180 = .ok (.iload_n 1, 1) := by decide +kernel
theorem dX11_worthOf_181 : decode cX11_worthOf 181 = .ok (.iaload, 1) := by decide +kernel
theorem dX11_worthOf_182 : decode cX11_worthOf 182 = .ok (.idiv, 1) := by decide +kernel
theorem dX11_worthOf_183 : decode cX11_worthOf 183 = .ok (.ireturn, 1) := by decide +kernel
theorem dX11_worthOf_184 : decode cX11_worthOf 184 = .ok (.aload_n 0, 1) := by decide +kernel
theorem dX11_worthOf_185 : decode cX11_worthOf 185 = .ok (.iload_n 1, 1) := by decide +kernel
theorem dX11_worthOf_186 : decode cX11_worthOf 186 = .ok (.invokevirtual 88, 3) := by decide +kernel
theorem dX11_worthOf_189 : decode cX11_worthOf 189 = .ok (.ireturn, 1) := by decide +kernel
theorem dX11_isSold_0 : decode cX11_isSold 0 = .ok (.aload_n 0, 1) := by decide +kernel
theorem dX11_isSold_1 : decode cX11_isSold 1 = .ok (.getfield 7, 3) := by decide +kernel
theorem dX11_isSold_4 : decode cX11_isSold 4 = .ok (.iload_n 1, 1) := by decide +kernel
theorem dX11_isSold_5 : decode cX11_isSold 5 = .ok (.iaload, 1) := by decide +kernel
theorem dX11_isSold_6 : decode cX11_isSold 6 = .ok (.iconst 4, 1) := by decide +kernel
theorem dX11_isSold_7 : decode cX11_isSold 7 = .ok (.bipush 7, 2) := by decide +kernel
theorem dX11_isSold_9 : decode cX11_isSold 9 = .ok (.invokestatic 44, 3) := by decide +kernel
theorem dX11_isSold_12 : decode cX11_isSold 12 = .ok (.ireturn, 1) := by decide +kernel
theorem dX11_costOf_0 : decode cX11_costOf 0 = .ok (.aload_n 0, 1) := by decide +kernel
theorem dX11_costOf_1 : decode cX11_costOf 1 = .ok (.iload_n 1, 1) := by decide +kernel
theorem dX11_costOf_2 : decode cX11_costOf 2 = .ok (.invokevirtual 95, 3) := by decide +kernel
theorem dX11_costOf_5 : decode cX11_costOf 5 = .ok (.istore_n 2, 1) := by decide +kernel
theorem dX11_costOf_6 : decode cX11_costOf 6 = .ok (.aload_n 0, 1) := by decide +kernel
theorem dX11_costOf_7 : decode cX11_costOf 7 = .ok (.getfield 7, 3) := by decide +kernel
theorem dX11_costOf_10 : decode cX11_costOf 10 = .ok (.iload_n 1, 1) := by decide +kernel
theorem dX11_costOf_11 : decode cX11_costOf 11 = .ok (.iaload, 1) := by decide +kernel
theorem dX11_costOf_12 : decode cX11_costOf 12 = .ok (.iconst 5, 1) := by decide +kernel
theorem dX11_costOf_13 : decode cX11_costOf 13 = .ok (.if_icmp .ne 10, 3) := by decide +kernel
theorem dX11_costOf_16 : decode cX11_costOf 16 = .ok (.iload_n 2, 1) := by decide +kernel
theorem dX11_costOf_17 : decode cX11_costOf 17 = .ok (.bipush 7, 2) := by decide +kernel
theorem dX11_costOf_19 : decode cX11_costOf 19 = .ok (.iadd, 1) := by decide +kernel
theorem dX11_costOf_20 : decode cX11_costOf 20 = .ok (.goto 9, 3) := by decide +kernel
theorem dX11_costOf_23 : decode cX11_costOf 23 = .ok (.iload_n 2, 1) := by decide +kernel
theorem dX11_costOf_24 : decode cX11_costOf 24 = .ok (.iload_n 2, 1) := by decide +kernel
theorem dX11_costOf_25 : decode cX11_costOf 25 = .ok (.bipush 10, 2) := by decide +kernel
theorem dX11_costOf_27 : decode cX11_costOf 27 = .ok (.idiv, 1) := by decide +kernel
theorem dX11_costOf_28 : decode cX11_costOf 28 = .ok (.iadd, 1) := by decide +kernel
theorem dX11_costOf_29 : decode cX11_costOf 29 = .ok (.ireturn, 1) := by decide +kernel
theorem dX11_loaf_0 : decode cX11_loaf 0 = .ok (.aload_n 0, 1) := by decide +kernel
theorem dX11_loaf_1 : decode cX11_loaf 1 = .ok (.iconst 0, 1) := by decide +kernel
theorem dX11_loaf_2 : decode cX11_loaf 2 = .ok (.putfield 37, 3) := by decide +kernel
theorem dX11_loaf_5 : decode cX11_loaf 5 = .ok (.iload_n 1, 1) := by decide +kernel
theorem dX11_loaf_6 : decode cX11_loaf 6 = .ok (.iconst 0, 1) := by decide +kernel
theorem dX11_loaf_7 : decode cX11_loaf 7 = .ok (.bipush 7, 2) := by decide +kernel
theorem dX11_loaf_9 : decode cX11_loaf 9 = .ok (.invokestatic 44, 3) := by decide +kernel
theorem dX11_loaf_12 : decode cX11_loaf 12 = .ok (.ifCond .eq 14, 3) := by decide +kernel
theorem dX11_loaf_15 : decode cX11_loaf 15 = .ok (.iload_n 2, 1) := by decide +kernel
theorem dX11_loaf_16 : decode cX11_loaf 16 = .ok (.iconst 1, 1) := by decide +kernel
theorem dX11_loaf_17 : decode cX11_loaf 17 = .ok (.sipush 2000, 3) := by decide +kernel
theorem dX11_loaf_20 : decode cX11_loaf 20 = .ok (.invokestatic 44, 3) := by decide +kernel
theorem dX11_loaf_23 : decode cX11_loaf 23 = .ok (.ifCond .ne 6, 3) := by decide +kernel
theorem dX11_loaf_26 : decode cX11_loaf 26 = .ok (.bipush (-102), 2) := by decide +kernel
theorem dX11_loaf_28 : decode cX11_loaf 28 = .ok (.ireturn, 1) := by decide +kernel
theorem dX11_loaf_29 : decode cX11_loaf 29 = .ok (.aload_n 0, 1) := by decide +kernel
theorem dX11_loaf_30 : decode cX11_loaf 30 = .ok (.getfield 41, 3) := by decide +kernel
theorem dX11_loaf_33 : decode cX11_loaf 33 = .ok (.bipush 20, 2) := by decide +kernel
theorem dX11_loaf_35 : decode cX11_loaf 35 = .ok (.if_icmp .ne 6, 3) := by decide +kernel
theorem dX11_loaf_38 : decode cX11_loaf 38 = .ok (.bipush (-104), 2) := by decide +kernel
theorem dX11_loaf_40 : decode cX11_loaf 40 = .ok (.ireturn, 1) := by decide +kernel
theorem dX11_loaf_41 : decode cX11_loaf 41 = .ok (.aload_n 0, 1) := by decide +kernel
theorem dX11_loaf_42 : decode cX11_loaf 42 = .ok (.getfield 7, 3) := by decide +kernel
theorem dX11_loaf_45 : decode cX11_loaf 45 = .ok (.aload_n 0, 1) := by decide +kernel
theorem dX11_loaf_46 : decode cX11_loaf 46 = .ok (.getfield 41, 3) := by decide +kernel
theorem dX11_loaf_49 : decode cX11_loaf 49 = .ok (.iload_n 1, 1) := by decide +kernel
theorem dX11_loaf_50 : decode cX11_loaf 50 = .ok (.iastore, 1) := by decide +kernel
theorem dX11_loaf_51 : decode cX11_loaf 51 = .ok (.aload_n 0, 1) := by decide +kernel
theorem dX11_loaf_52 : decode cX11_loaf 52 = .ok (.getfield 13, 3) := by decide +kernel
theorem dX11_loaf_55 : decode cX11_loaf 55 = .ok (.aload_n 0, 1) := by decide +kernel
theorem dX11_loaf_56 : decode cX11_loaf 56 = .ok (.getfield 41, 3) := by decide +kernel
theorem dX11_loaf_59 : decode cX11_loaf 59 = .ok (.iload_n 2, 1) := by decide +kernel
theorem dX11_loaf_60 : decode cX11_loaf 60 = .ok (.iastore, 1) := by decide +kernel
theorem dX11_loaf_61 : decode cX11_loaf 61 = .ok (.aload_n 0, 1) := by decide +kernel
theorem dX11_loaf_62 : decode cX11_loaf 62 = .ok (.dup, 1) := by decide +kernel
theorem dX11_loaf_63 : decode cX11_loaf 63 = .ok (.getfield 41, 3) := by decide +kernel
theorem dX11_loaf_66 : decode cX11_loaf 66 = .ok (.iconst 1, 1) := by decide +kernel
theorem dX11_loaf_67 : decode cX11_loaf 67 = .ok (.iadd, 1) := by decide +kernel
theorem dX11_loaf_68 : decode cX11_loaf 68 = .ok (.putfield 41, 3) := by decide +kernel
theorem dX11_loaf_71 : decode cX11_loaf 71 = .ok (.aload_n 0, 1) := by decide +kernel
theorem dX11_loaf_72 : decode cX11_loaf 72 = .ok (.getfield 41, 3) := by decide +kernel
theorem dX11_loaf_75 : decode cX11_loaf 75 = .ok (.iconst 1, 1) := by decide +kernel
theorem dX11_loaf_76 : decode cX11_loaf 76 = .ok (.isub, 1) := by decide +kernel
theorem dX11_loaf_77 : decode cX11_loaf 77 = .ok (.ireturn, 1) := by decide +kernel
theorem dX11_shelf_0 : decode cX11_shelf 0 = .ok (.aload_n 0, 1) := by decide +kernel
theorem dX11_shelf_1 : decode cX11_shelf 1 = .ok (.iconst 0, 1) := by decide +kernel
theorem dX11_shelf_2 : decode cX11_shelf 2 = .ok (.putfield 37, 3) := by decide +kernel
theorem dX11_shelf_5 : decode cX11_shelf 5 = .ok (.iload_n 1, 1) := by decide +kernel
theorem dX11_shelf_6 : decode cX11_shelf 6 = .ok (.invokestatic 98, 3) := by decide +kernel
theorem dX11_shelf_9 : decode cX11_shelf 9 = .ok (.ifCond .eq 9, 3) := by decide +kernel
theorem dX11_shelf_12 : decode cX11_shelf 12 = .ok (.iload_n 2, 1) := by decide +kernel
theorem dX11_shelf_13 : decode cX11_shelf 13 = .ok (.bipush 8, 2) := by decide +kernel
theorem dX11_shelf_15 : decode cX11_shelf 15 = .ok (.if_icmp .le 6, 3) := by decide +kernel
theorem dX11_shelf_18 : decode cX11_shelf 18 = .ok (.bipush (-102), 2) := by decide +kernel
theorem dX11_shelf_20 : decode cX11_shelf 20 = .ok (.ireturn, 1) := by decide +kernel
theorem dX11_shelf_21 : decode cX11_shelf 21 = .ok (.iload_n 2, 1) := by decide +kernel
theorem dX11_shelf_22 : decode cX11_shelf 22 = .ok (.ifCond .ge 10, 3) := by decide +kernel
theorem dX11_shelf_25 : decode cX11_shelf 25 = .ok (.aload_n 0, 1) := by decide +kernel
theorem dX11_shelf_26 : decode cX11_shelf 26 = .ok (.iconst 1, 1) := by decide +kernel
theorem dX11_shelf_27 : decode cX11_shelf 27 = .ok (.putfield 37, 3) := by decide +kernel
theorem dX11_shelf_30 : decode cX11_shelf 30 = .ok (.iconst 0, 1) := by decide +kernel
theorem dX11_shelf_31 : decode cX11_shelf 31 = .ok (.ireturn, 1) := by decide +kernel
theorem dX11_shelf_32 : decode cX11_shelf 32 = .ok (.aload_n 0, 1) := by decide +kernel
theorem dX11_shelf_33 : decode cX11_shelf 33 = .ok (.getfield 28, 3) := by decide +kernel
theorem dX11_shelf_36 : decode cX11_shelf 36 = .ok (.iload_n 1, 1) := by decide +kernel
theorem dX11_shelf_37 : decode cX11_shelf 37 = .ok (.iload_n 2, 1) := by decide +kernel
theorem dX11_shelf_38 : decode cX11_shelf 38 = .ok (.iastore, 1) := by decide +kernel
theorem dX11_shelf_39 : decode cX11_shelf 39 = .ok (.iconst 0, 1) := by decide +kernel
theorem dX11_shelf_40 : decode cX11_shelf 40 = .ok (.istore_n 3, 1) := by decide +kernel
theorem dX11_shelf_41 : decode cX11_shelf 41 = .ok (.iload_n 3, 1) := by decide +kernel
theorem dX11_shelf_42 : decode cX11_shelf 42 = .ok (.bipush 8, 2) := by decide +kernel
theorem dX11_shelf_44 : decode cX11_shelf 44 = .ok (.if_icmp .ge 21, 3) := by decide +kernel
theorem dX11_shelf_47 : decode cX11_shelf 47 = .ok (.aload_n 0, 1) := by decide +kernel
theorem dX11_shelf_48 : decode cX11_shelf 48 = .ok (.getfield 31, 3) := by decide +kernel
theorem dX11_shelf_51 : decode cX11_shelf 51 = .ok (.bipush 8, 2) := by decide +kernel
theorem dX11_shelf_53 : decode cX11_shelf 53 = .ok (.iload_n 1, 1) := by decide +kernel
theorem dX11_shelf_54 : decode cX11_shelf 54 = .ok (.imul, 1) := by decide +kernel
theorem dX11_shelf_55 : decode cX11_shelf 55 = .ok (.iload_n 3, 1) := by decide +kernel
theorem dX11_shelf_56 : decode cX11_shelf 56 = .ok (.iadd, 1) := by decide +kernel
theorem dX11_shelf_57 : decode cX11_shelf 57 = .ok (.iconst (-1), 1) := by decide +kernel
theorem dX11_shelf_58 : decode cX11_shelf 58 = .ok (.iastore, 1) := by decide +kernel
theorem dX11_shelf_59 : decode cX11_shelf 59 = .ok (.iinc 3 1, 3) := by decide +kernel
theorem dX11_shelf_62 : decode cX11_shelf 62 = .ok (.goto (-21), 3) := by decide +kernel
theorem dX11_shelf_65 : decode cX11_shelf 65 = .ok (.iload_n 2, 1) := by decide +kernel
theorem dX11_shelf_66 : decode cX11_shelf 66 = .ok (.ireturn, 1) := by decide +kernel
theorem dX11_out_0 : decode cX11_out 0 = .ok (.aload_n 0, 1) := by decide +kernel
theorem dX11_out_1 : decode cX11_out 1 = .ok (.iconst 0, 1) := by decide +kernel
theorem dX11_out_2 : decode cX11_out 2 = .ok (.putfield 37, 3) := by decide +kernel
theorem dX11_out_5 : decode cX11_out 5 = .ok (.iload_n 1, 1) := by decide +kernel
theorem dX11_out_6 : decode cX11_out 6 = .ok (.invokestatic 98, 3) := by decide +kernel
theorem dX11_out_9 : decode cX11_out 9 = .ok (.ifCond .ne 6, 3) := by decide +kernel
theorem dX11_out_12 : decode cX11_out 12 = .ok (.bipush (-102), 2) := by decide +kernel
theorem dX11_out_14 : decode cX11_out 14 = .ok (.ireturn, 1) := by decide +kernel
theorem dX11_out_15 : decode cX11_out 15 = .ok (.aload_n 0, 1) := by decide +kernel
theorem dX11_out_16 : decode cX11_out 16 = .ok (.getfield 28, 3) := by decide +kernel
theorem dX11_out_19 : decode cX11_out 19 = .ok (.iload_n 1, 1) := by decide +kernel
theorem dX11_out_20 : decode cX11_out 20 = .ok (.iaload, 1) := by decide +kernel
theorem dX11_out_21 : decode cX11_out 21 = .ok (.iconst (-1), 1) := by decide +kernel
theorem dX11_out_22 : decode cX11_out 22 = .ok (.if_icmp .ne 7, 3) := by decide +kernel
theorem dX11_out_25 : decode cX11_out 25 = .ok (.iconst 1, 1) := by decide +kernel
theorem dX11_out_26 : decode cX11_out 26 = .ok (.goto 4, 3) := by decide +kernel
theorem dX11_out_29 : decode cX11_out 29 = .ok (.iconst 0, 1) := by decide +kernel
theorem dX11_out_30 : decode cX11_out 30 = .ok (.istore_n 2, 1) := by decide +kernel
theorem dX11_out_31 : decode cX11_out 31 = .ok (.aload_n 0, 1) := by decide +kernel
theorem dX11_out_32 : decode cX11_out 32 = .ok (.getfield 28, 3) := by decide +kernel
theorem dX11_out_35 : decode cX11_out 35 = .ok (.iload_n 1, 1) := by decide +kernel
theorem dX11_out_36 : decode cX11_out 36 = .ok (.iconst (-1), 1) := by decide +kernel
theorem dX11_out_37 : decode cX11_out 37 = .ok (.iastore, 1) := by decide +kernel
theorem dX11_out_38 : decode cX11_out 38 = .ok (.iload_n 2, 1) := by decide +kernel
theorem dX11_out_39 : decode cX11_out 39 = .ok (.ifCond .eq 7, 3) := by decide +kernel
theorem dX11_out_42 : decode cX11_out 42 = .ok (.iconst 0, 1) := by decide +kernel
theorem dX11_out_43 : decode cX11_out 43 = .ok (.goto 4, 3) := by decide +kernel
theorem dX11_out_46 : decode cX11_out 46 = .ok (.iconst 1, 1) := by decide +kernel
theorem dX11_out_47 : decode cX11_out 47 = .ok (.ireturn, 1) := by decide +kernel
theorem dX11_rest_0 : decode cX11_rest 0 = .ok (.aload_n 0, 1) := by decide +kernel
theorem dX11_rest_1 : decode cX11_rest 1 = .ok (.iconst 0, 1) := by decide +kernel
theorem dX11_rest_2 : decode cX11_rest 2 = .ok (.putfield 37, 3) := by decide +kernel
theorem dX11_rest_5 : decode cX11_rest 5 = .ok (.aload_n 0, 1) := by decide +kernel
theorem dX11_rest_6 : decode cX11_rest 6 = .ok (.iload_n 1, 1) := by decide +kernel
theorem dX11_rest_7 : decode cX11_rest 7 = .ok (.invokevirtual 102, 3) := by decide +kernel
theorem dX11_rest_10 : decode cX11_rest 10 = .ok (.ifCond .ne 6, 3) := by decide +kernel
theorem dX11_rest_13 : decode cX11_rest 13 = .ok (.bipush (-101), 2) := by decide +kernel
theorem dX11_rest_15 : decode cX11_rest 15 = .ok (.ireturn, 1) := by decide +kernel
theorem dX11_rest_16 : decode cX11_rest 16 = .ok (.iload_n 2, 1) := by decide +kernel
theorem dX11_rest_17 : decode cX11_rest 17 = .ok (.iconst 0, 1) := by decide +kernel
theorem dX11_rest_18 : decode cX11_rest 18 = .ok (.sipush 600, 3) := by decide +kernel
theorem dX11_rest_21 : decode cX11_rest 21 = .ok (.invokestatic 44, 3) := by decide +kernel
theorem dX11_rest_24 : decode cX11_rest 24 = .ok (.ifCond .ne 6, 3) := by decide +kernel
theorem dX11_rest_27 : decode cX11_rest 27 = .ok (.bipush (-102), 2) := by decide +kernel
theorem dX11_rest_29 : decode cX11_rest 29 = .ok (.ireturn, 1) := by decide +kernel
theorem dX11_rest_30 : decode cX11_rest 30 = .ok (.aload_n 0, 1) := by decide +kernel
theorem dX11_rest_31 : decode cX11_rest 31 = .ok (.iload_n 1, 1) := by decide +kernel
theorem dX11_rest_32 : decode cX11_rest 32 = .ok (.iload_n 2, 1) := by decide +kernel
theorem dX11_rest_33 : decode cX11_rest 33 = .ok (.invokevirtual 105, 3) := by decide +kernel
theorem dX11_rest_36 : decode cX11_rest 36 = .ok (.istore_n 3, 1) := by decide +kernel
theorem dX11_rest_37 : decode cX11_rest 37 = .ok (.aload_n 0, 1) := by decide +kernel
theorem dX11_rest_38 : decode cX11_rest 38 = .ok (.aload_n 0, 1) := by decide +kernel
theorem dX11_rest_39 : decode cX11_rest 39 = .ok (.getfield 61, 3) := by decide +kernel
theorem dX11_rest_42 : decode cX11_rest 42 = .ok (.ifCond .eq 7, 3) := by decide +kernel
theorem dX11_rest_45 : decode cX11_rest 45 = .ok (.iconst 1, 1) := by decide +kernel
theorem dX11_rest_46 : decode cX11_rest 46 = .ok (.goto 4, 3) := by decide +kernel
theorem dX11_rest_49 : decode cX11_rest 49 = .ok (.iconst 0, 1) := by decide +kernel
theorem dX11_rest_50 : decode cX11_rest 50 = .ok (.putfield 37, 3) := by decide +kernel
theorem dX11_rest_53 : decode cX11_rest 53 = .ok (.aload_n 0, 1) := by decide +kernel
theorem dX11_rest_54 : decode cX11_rest 54 = .ok (.getfield 61, 3) := by decide +kernel
theorem dX11_rest_57 : decode cX11_rest 57 = .ok (.ifCond .eq 7, 3) := by decide +kernel
theorem dX11_rest_60 : decode cX11_rest 60 = .ok (.iconst 0, 1) := by decide +kernel
theorem dX11_rest_61 : decode cX11_rest 61 = .ok (.goto 4, 3) := by decide +kernel
theorem dX11_rest_64 : decode cX11_rest 64 = .ok (.iload_n 3, 1) := by decide +kernel
theorem dX11_rest_65 : decode cX11_rest 65 = .ok (.ireturn, 1) := by decide +kernel
theorem dX11_fold_0 : decode cX11_fold 0 = .ok (.aload_n 0, 1) := by decide +kernel
theorem dX11_fold_1 : decode cX11_fold 1 = .ok (.iconst 0, 1) := by decide +kernel
theorem dX11_fold_2 : decode cX11_fold 2 = .ok (.putfield 37, 3) := by decide +kernel
theorem dX11_fold_5 : decode cX11_fold 5 = .ok (.aload_n 0, 1) := by decide +kernel
theorem dX11_fold_6 : decode cX11_fold 6 = .ok (.iload_n 1, 1) := by decide +kernel
theorem dX11_fold_7 : decode cX11_fold 7 = .ok (.invokevirtual 102, 3) := by decide +kernel
theorem dX11_fold_10 : decode cX11_fold 10 = .ok (.ifCond .ne 6, 3) := by decide +kernel
theorem dX11_fold_13 : decode cX11_fold 13 = .ok (.bipush (-101), 2) := by decide +kernel
theorem dX11_fold_15 : decode cX11_fold 15 = .ok (.ireturn, 1) := by decide +kernel
theorem dX11_fold_16 : decode cX11_fold 16 = .ok (.aload_n 0, 1) := by decide +kernel
theorem dX11_fold_17 : decode cX11_fold 17 = .ok (.iload_n 1, 1) := by decide +kernel
theorem dX11_fold_18 : decode cX11_fold 18 = .ok (.invokevirtual 79, 3) := by decide +kernel
theorem dX11_fold_21 : decode cX11_fold 21 = .ok (.aload_n 0, 1) := by decide +kernel
theorem dX11_fold_22 : decode cX11_fold 22 = .ok (.getfield 19, 3) := by decide +kernel
theorem dX11_fold_25 : decode cX11_fold 25 = .ok (.iload_n 1, 1) := by decide +kernel
theorem dX11_fold_26 : decode cX11_fold 26 = .ok (.iaload, 1) := by decide +kernel
theorem dX11_fold_27 : decode cX11_fold 27 = .ok (.ireturn, 1) := by decide +kernel
theorem dX11_lay_0 : decode cX11_lay 0 = .ok (.aload_n 0, 1) := by decide +kernel
theorem dX11_lay_1 : decode cX11_lay 1 = .ok (.iconst 0, 1) := by decide +kernel
theorem dX11_lay_2 : decode cX11_lay 2 = .ok (.putfield 37, 3) := by decide +kernel
theorem dX11_lay_5 : decode cX11_lay 5 = .ok (.aload_n 0, 1) := by decide +kernel
theorem dX11_lay_6 : decode cX11_lay 6 = .ok (.iload_n 1, 1) := by decide +kernel
theorem dX11_lay_7 : decode cX11_lay 7 = .ok (.invokevirtual 102, 3) := by decide +kernel
theorem dX11_lay_10 : decode cX11_lay 10 = .ok (.ifCond .ne 6, 3) := by decide +kernel
theorem dX11_lay_13 : decode cX11_lay 13 = .ok (.bipush (-101), 2) := by decide +kernel
theorem dX11_lay_15 : decode cX11_lay 15 = .ok (.ireturn, 1) := by decide +kernel
theorem dX11_lay_16 : decode cX11_lay 16 = .ok (.iload_n 2, 1) := by decide +kernel
theorem dX11_lay_17 : decode cX11_lay 17 = .ok (.invokestatic 98, 3) := by decide +kernel
theorem dX11_lay_20 : decode cX11_lay 20 = .ok (.ifCond .ne 6, 3) := by decide +kernel
theorem dX11_lay_23 : decode cX11_lay 23 = .ok (.bipush (-102), 2) := by decide +kernel
theorem dX11_lay_25 : decode cX11_lay 25 = .ok (.ireturn, 1) := by decide +kernel
theorem dX11_lay_26 : decode cX11_lay 26 = .ok (.aload_n 0, 1) := by decide +kernel
theorem dX11_lay_27 : decode cX11_lay 27 = .ok (.iload_n 1, 1) := by decide +kernel
theorem dX11_lay_28 : decode cX11_lay 28 = .ok (.iload_n 2, 1) := by decide +kernel
theorem dX11_lay_29 : decode cX11_lay 29 = .ok (.iload_n 3, 1) := by decide +kernel
theorem dX11_lay_30 : decode cX11_lay 30 = .ok (.invokevirtual 109, 3) := by decide +kernel
theorem dX11_lay_33 : decode cX11_lay 33 = .ok (.istore 4, 2) := by decide +kernel
theorem dX11_lay_35 : decode cX11_lay 35 = .ok (.iload 4, 2) := by decide +kernel
theorem dX11_lay_37 : decode cX11_lay 37 = .ok (.ifCond .le 21, 3) := by decide +kernel
theorem dX11_lay_40 : decode cX11_lay 40 = .ok (.aload_n 0, 1) := by decide +kernel
theorem dX11_lay_41 : decode cX11_lay 41 = .ok (.dup, 1) := by decide +kernel
theorem dX11_lay_42 : decode cX11_lay 42 = .ok (.getfield 112, 3) := by decide +kernel
theorem dX11_lay_45 : decode cX11_lay 45 = .ok (.iconst 1, 1) := by decide +kernel
theorem dX11_lay_46 : decode cX11_lay 46 = .ok (.iadd, 1) := by decide +kernel
theorem dX11_lay_47 : decode cX11_lay 47 = .ok (.putfield 112, 3) := by decide +kernel
theorem dX11_lay_50 : decode cX11_lay 50 = .ok (.aload_n 0, 1) := by decide +kernel
theorem dX11_lay_51 : decode cX11_lay 51 = .ok (.iload 4, 2) := by decide +kernel
theorem dX11_lay_53 : decode cX11_lay 53 = .ok (.putfield 37, 3) := by decide +kernel
theorem dX11_lay_56 : decode cX11_lay 56 = .ok (.iconst 0, 1) := by decide +kernel
theorem dX11_lay_57 : decode cX11_lay 57 = .ok (.ireturn, 1) := by decide +kernel
theorem dX11_lay_58 : decode cX11_lay 58 = .ok (.iconst 0, 1) := by decide +kernel
theorem dX11_lay_59 : decode cX11_lay 59 = .ok (.istore 5, 2) := by decide +kernel
theorem dX11_lay_61 : decode cX11_lay 61 = .ok (.iconst 0, 1) := by decide +kernel
theorem dX11_lay_62 : decode cX11_lay 62 = .ok (.istore 6, 2) := by decide +kernel
theorem dX11_lay_64 : decode cX11_lay 64 = .ok (.iload 6, 2) := by decide +kernel
theorem dX11_lay_66 : decode cX11_lay 66 = .ok (.iconst 4, 1) := by decide +kernel
theorem dX11_lay_67 : decode cX11_lay 67 = .ok (.if_icmp .ge 57, 3) := by decide +kernel
theorem dX11_lay_70 : decode cX11_lay 70 = .ok (.iconst 0, 1) := by decide +kernel
theorem dX11_lay_71 : decode cX11_lay 71 = .ok (.istore 7, 2) := by decide +kernel
theorem dX11_lay_73 : decode cX11_lay 73 = .ok (.iload 7, 2) := by decide +kernel
theorem dX11_lay_75 : decode cX11_lay 75 = .ok (.aload_n 0, 1) := by decide +kernel
theorem dX11_lay_76 : decode cX11_lay 76 = .ok (.getfield 28, 3) := by decide +kernel
theorem dX11_lay_79 : decode cX11_lay 79 = .ok (.iload 6, 2) := by decide +kernel
theorem dX11_lay_81 : decode cX11_lay 81 = .ok (.iaload, 1) := by decide +kernel
theorem dX11_lay_82 : decode cX11_lay 82 = .ok (.if_icmp .ge 36, 3) := by decide +kernel
theorem dX11_lay_85 : decode cX11_lay 85 = .ok (.iload 5, 2) := by decide +kernel
theorem dX11_lay_87 : decode cX11_lay 87 = .ok (.aload_n 0, 1) := by decide +kernel
theorem dX11_lay_88 : decode cX11_lay 88 = .ok (.getfield 31, 3) := by decide +kernel
theorem dX11_lay_91 : decode cX11_lay 91 = .ok (.bipush 8, 2) := by decide +kernel
theorem dX11_lay_93 : decode cX11_lay 93 = .ok (.iload 6, 2) := by decide +kernel
theorem dX11_lay_95 : decode cX11_lay 95 = .ok (.imul, 1) := by decide +kernel
theorem dX11_lay_96 : decode cX11_lay 96 = .ok (.iload 7, 2) := by decide +kernel
theorem dX11_lay_98 : decode cX11_lay 98 = .ok (.iadd, 1) := by decide +kernel
theorem dX11_lay_99 : decode cX11_lay 99 = .ok (.iaload, 1) := by decide +kernel
theorem dX11_lay_100 : decode cX11_lay 100 = .ok (.iload_n 1, 1) := by decide +kernel
theorem dX11_lay_101 : decode cX11_lay 101 = .ok (.if_icmp .ne 7, 3) := by decide +kernel
theorem dX11_lay_104 : decode cX11_lay 104 = .ok (.iconst 1, 1) := by decide +kernel
theorem dX11_lay_105 : decode cX11_lay 105 = .ok (.goto 4, 3) := by decide +kernel
theorem dX11_lay_108 : decode cX11_lay 108 = .ok (.iconst 0, 1) := by decide +kernel
theorem dX11_lay_109 : decode cX11_lay 109 = .ok (.iadd, 1) := by decide +kernel
theorem dX11_lay_110 : decode cX11_lay 110 = .ok (.istore 5, 2) := by decide +kernel
theorem dX11_lay_112 : decode cX11_lay 112 = .ok (.iinc 7 1, 3) := by decide +kernel
theorem dX11_lay_115 : decode cX11_lay 115 = .ok (.goto (-42), 3) := by decide +kernel
theorem dX11_lay_118 : decode cX11_lay 118 = .ok (.iinc 6 1, 3) := by decide +kernel
theorem dX11_lay_121 : decode cX11_lay 121 = .ok (.goto (-57), 3) := by decide +kernel
theorem dX11_lay_124 : decode cX11_lay 124 = .ok (.iload 5, 2) := by decide +kernel
theorem dX11_lay_126 : decode cX11_lay 126 = .ok (.ireturn, 1) := by decide +kernel
theorem dX11_bake_0 : decode cX11_bake 0 = .ok (.aload_n 0, 1) := by decide +kernel
theorem dX11_bake_1 : decode cX11_bake 1 = .ok (.iconst 0, 1) := by decide +kernel
theorem dX11_bake_2 : decode cX11_bake 2 = .ok (.putfield 37, 3) := by decide +kernel
theorem dX11_bake_5 : decode cX11_bake 5 = .ok (.aload_n 0, 1) := by decide +kernel
theorem dX11_bake_6 : decode cX11_bake 6 = .ok (.iload_n 1, 1) := by decide +kernel
theorem dX11_bake_7 : decode cX11_bake 7 = .ok (.invokevirtual 102, 3) := by decide +kernel
theorem dX11_bake_10 : decode cX11_bake 10 = .ok (.ifCond .ne 6, 3) := by decide +kernel
theorem dX11_bake_13 : decode cX11_bake 13 = .ok (.bipush (-101), 2) := by decide +kernel
theorem dX11_bake_15 : decode cX11_bake 15 = .ok (.ireturn, 1) := by decide +kernel
theorem dX11_bake_16 : decode cX11_bake 16 = .ok (.iload_n 2, 1) := by decide +kernel
theorem dX11_bake_17 : decode cX11_bake 17 = .ok (.iconst 0, 1) := by decide +kernel
theorem dX11_bake_18 : decode cX11_bake 18 = .ok (.sipush 400, 3) := by decide +kernel
theorem dX11_bake_21 : decode cX11_bake 21 = .ok (.invokestatic 44, 3) := by decide +kernel
theorem dX11_bake_24 : decode cX11_bake 24 = .ok (.ifCond .ne 8, 3) := by decide +kernel
theorem dX11_bake_27 : decode cX11_bake 27 = .ok (.bipush (-102), 2) := by decide +kernel
theorem dX11_bake_29 : decode cX11_bake 29 = .ok (.goto 17, 3) := by decide +kernel
theorem dX11_bake_32 : decode cX11_bake 32 = .ok (.aload_n 0, 1) := by decide +kernel
theorem dX11_bake_33 : decode cX11_bake 33 = .ok (.iload_n 1, 1) := by decide +kernel
theorem dX11_bake_34 : decode cX11_bake 34 = .ok (.iload_n 2, 1) := by decide +kernel
theorem dX11_bake_35 : decode cX11_bake 35 = .ok (.invokevirtual 115, 3) := by decide +kernel
theorem dX11_bake_38 : decode cX11_bake 38 = .ok (.ifCond .eq 7, 3) := by decide +kernel
theorem dX11_bake_41 : decode cX11_bake 41 = .ok (.iconst 1, 1) := by decide +kernel
theorem dX11_bake_42 : decode cX11_bake 42 = .ok (.goto 4, 3) := by decide +kernel
theorem dX11_bake_45 : decode cX11_bake 45 = .ok (.iconst 0, 1) := by decide +kernel
theorem dX11_bake_46 : decode cX11_bake 46 = .ok (.ireturn, 1) := by decide +kernel
theorem dX11_worth_0 : decode cX11_worth 0 = .ok (.aload_n 0, 1) := by decide +kernel
theorem dX11_worth_1 : decode cX11_worth 1 = .ok (.iconst 0, 1) := by decide +kernel
theorem dX11_worth_2 : decode cX11_worth 2 = .ok (.putfield 37, 3) := by decide +kernel
theorem dX11_worth_5 : decode cX11_worth 5 = .ok (.aload_n 0, 1) := by decide +kernel
theorem dX11_worth_6 : decode cX11_worth 6 = .ok (.iload_n 1, 1) := by decide +kernel
theorem dX11_worth_7 : decode cX11_worth 7 = .ok (.invokevirtual 102, 3) := by decide +kernel
theorem dX11_worth_10 : decode cX11_worth 10 = .ok (.ifCond .ne 6, 3) := by decide +kernel
theorem dX11_worth_13 : decode cX11_worth 13 = .ok (.bipush (-101), 2) := by decide +kernel
theorem dX11_worth_15 : decode cX11_worth 15 = .ok (.ireturn, 1) := by decide +kernel
theorem dX11_worth_16 : decode cX11_worth 16 = .ok (.aload_n 0, 1) := by decide +kernel
theorem dX11_worth_17 : decode cX11_worth 17 = .ok (.iload_n 1, 1) := by decide +kernel
theorem dX11_worth_18 : decode cX11_worth 18 = .ok (.invokevirtual 95, 3) := by decide +kernel
theorem dX11_worth_21 : decode cX11_worth 21 = .ok (.istore_n 2, 1) := by decide +kernel
theorem dX11_worth_22 : decode cX11_worth 22 = .ok (.aload_n 0, 1) := by decide +kernel
theorem dX11_worth_23 : decode cX11_worth 23 = .ok (.aload_n 0, 1) := by decide +kernel
theorem dX11_worth_24 : decode cX11_worth 24 = .ok (.getfield 85, 3) := by decide +kernel
theorem dX11_worth_27 : decode cX11_worth 27 = .ok (.ifCond .eq 7, 3) := by decide +kernel
theorem dX11_worth_30 : decode cX11_worth 30 = .ok (.iconst 1, 1) := by decide +kernel
theorem dX11_worth_31 : decode cX11_worth 31 = .ok (.goto 4, 3) := by decide +kernel
theorem dX11_worth_34 : decode cX11_worth 34 = .ok (.iconst 0, 1) := by decide +kernel
theorem dX11_worth_35 : decode cX11_worth 35 = .ok (.putfield 37, 3) := by decide +kernel
theorem dX11_worth_38 : decode cX11_worth 38 = .ok (.iload_n 2, 1) := by decide +kernel
theorem dX11_worth_39 : decode cX11_worth 39 = .ok (.ireturn, 1) := by decide +kernel
theorem dX11_cost_0 : decode cX11_cost 0 = .ok (.aload_n 0, 1) := by decide +kernel
theorem dX11_cost_1 : decode cX11_cost 1 = .ok (.iconst 0, 1) := by decide +kernel
theorem dX11_cost_2 : decode cX11_cost 2 = .ok (.putfield 37, 3) := by decide +kernel
theorem dX11_cost_5 : decode cX11_cost 5 = .ok (.aload_n 0, 1) := by decide +kernel
theorem dX11_cost_6 : decode cX11_cost 6 = .ok (.iload_n 1, 1) := by decide +kernel
theorem dX11_cost_7 : decode cX11_cost 7 = .ok (.invokevirtual 102, 3) := by decide +kernel
theorem dX11_cost_10 : decode cX11_cost 10 = .ok (.ifCond .ne 6, 3) := by decide +kernel
theorem dX11_cost_13 : decode cX11_cost 13 = .ok (.bipush (-101), 2) := by decide +kernel
theorem dX11_cost_15 : decode cX11_cost 15 = .ok (.ireturn, 1) := by decide +kernel
theorem dX11_cost_16 : decode cX11_cost 16 = .ok (.aload_n 0, 1) := by decide +kernel
theorem dX11_cost_17 : decode cX11_cost 17 = .ok (.iload_n 1, 1) := by decide +kernel
theorem dX11_cost_18 : decode cX11_cost 18 = .ok (.invokevirtual 118, 3) := by decide +kernel
theorem dX11_cost_21 : decode cX11_cost 21 = .ok (.ifCond .ne 6, 3) := by decide +kernel
theorem dX11_cost_24 : decode cX11_cost 24 = .ok (.bipush (-103), 2) := by decide +kernel
theorem dX11_cost_26 : decode cX11_cost 26 = .ok (.ireturn, 1) := by decide +kernel
theorem dX11_cost_27 : decode cX11_cost 27 = .ok (.aload_n 0, 1) := by decide +kernel
theorem dX11_cost_28 : decode cX11_cost 28 = .ok (.iload_n 1, 1) := by decide +kernel
theorem dX11_cost_29 : decode cX11_cost 29 = .ok (.invokevirtual 121, 3) := by decide +kernel
theorem dX11_cost_32 : decode cX11_cost 32 = .ok (.istore_n 2, 1) := by decide +kernel
theorem dX11_cost_33 : decode cX11_cost 33 = .ok (.aload_n 0, 1) := by decide +kernel
theorem dX11_cost_34 : decode cX11_cost 34 = .ok (.aload_n 0, 1) := by decide +kernel
theorem dX11_cost_35 : decode cX11_cost 35 = .ok (.getfield 85, 3) := by decide +kernel
theorem dX11_cost_38 : decode cX11_cost 38 = .ok (.ifCond .eq 7, 3) := by decide +kernel
theorem dX11_cost_41 : decode cX11_cost 41 = .ok (.iconst 1, 1) := by decide +kernel
theorem dX11_cost_42 : decode cX11_cost 42 = .ok (.goto 4, 3) := by decide +kernel
theorem dX11_cost_45 : decode cX11_cost 45 = .ok (.iconst 0, 1) := by decide +kernel
theorem dX11_cost_46 : decode cX11_cost 46 = .ok (.putfield 37, 3) := by decide +kernel
theorem dX11_cost_49 : decode cX11_cost 49 = .ok (.aload_n 0, 1) := by decide +kernel
theorem dX11_cost_50 : decode cX11_cost 50 = .ok (.getfield 85, 3) := by decide +kernel
theorem dX11_cost_53 : decode cX11_cost 53 = .ok (.ifCond .eq 7, 3) := by decide +kernel
theorem dX11_cost_56 : decode cX11_cost 56 = .ok (.iconst 0, 1) := by decide +kernel
theorem dX11_cost_57 : decode cX11_cost 57 = .ok (.goto 4, 3) := by decide +kernel
theorem dX11_cost_60 : decode cX11_cost 60 = .ok (.iload_n 2, 1) := by decide +kernel
theorem dX11_cost_61 : decode cX11_cost 61 = .ok (.ireturn, 1) := by decide +kernel
theorem dX11_change_0 : decode cX11_change 0 = .ok (.aload_n 0, 1) := by decide +kernel
theorem dX11_change_1 : decode cX11_change 1 = .ok (.iconst 0, 1) := by decide +kernel
theorem dX11_change_2 : decode cX11_change 2 = .ok (.putfield 37, 3) := by decide +kernel
theorem dX11_change_5 : decode cX11_change 5 = .ok (.aload_n 0, 1) := by decide +kernel
theorem dX11_change_6 : decode cX11_change 6 = .ok (.iload_n 1, 1) := by decide +kernel
theorem dX11_change_7 : decode cX11_change 7 = .ok (.invokevirtual 102, 3) := by decide +kernel
theorem dX11_change_10 : decode cX11_change 10 = .ok (.ifCond .ne 6, 3) := by decide +kernel
theorem dX11_change_13 : decode cX11_change 13 = .ok (.bipush (-101), 2) := by decide +kernel
theorem dX11_change_15 : decode cX11_change 15 = .ok (.ireturn, 1) := by decide +kernel
theorem dX11_change_16 : decode cX11_change 16 = .ok (.iload_n 2, 1) := by decide +kernel
theorem dX11_change_17 : decode cX11_change 17 = .ok (.iconst 0, 1) := by decide +kernel
theorem dX11_change_18 : decode cX11_change 18 = .ok (.ldc 124, 2) := by decide +kernel
theorem dX11_change_20 : decode cX11_change 20 = .ok (.invokestatic 44, 3) := by decide +kernel
theorem dX11_change_23 : decode cX11_change 23 = .ok (.ifCond .ne 6, 3) := by decide +kernel
theorem dX11_change_26 : decode cX11_change 26 = .ok (.bipush (-102), 2) := by decide +kernel
theorem dX11_change_28 : decode cX11_change 28 = .ok (.ireturn, 1) := by decide +kernel
theorem dX11_change_29 : decode cX11_change 29 = .ok (.aload_n 0, 1) := by decide +kernel
theorem dX11_change_30 : decode cX11_change 30 = .ok (.iload_n 1, 1) := by decide +kernel
theorem dX11_change_31 : decode cX11_change 31 = .ok (.invokevirtual 118, 3) := by decide +kernel
theorem dX11_change_34 : decode cX11_change 34 = .ok (.ifCond .ne 6, 3) := by decide +kernel
theorem dX11_change_37 : decode cX11_change 37 = .ok (.bipush (-103), 2) := by decide +kernel
theorem dX11_change_39 : decode cX11_change 39 = .ok (.ireturn, 1) := by decide +kernel
theorem dX11_change_40 : decode cX11_change 40 = .ok (.aload_n 0, 1) := by decide +kernel
theorem dX11_change_41 : decode cX11_change 41 = .ok (.iload_n 1, 1) := by decide +kernel
theorem dX11_change_42 : decode cX11_change 42 = .ok (.invokevirtual 121, 3) := by decide +kernel
theorem dX11_change_45 : decode cX11_change 45 = .ok (.istore_n 3, 1) := by decide +kernel
theorem dX11_change_46 : decode cX11_change 46 = .ok (.aload_n 0, 1) := by decide +kernel
theorem dX11_change_47 : decode cX11_change 47 = .ok (.aload_n 0, 1) := by decide +kernel
theorem dX11_change_48 : decode cX11_change 48 = .ok (.getfield 85, 3) := by decide +kernel
theorem dX11_change_51 : decode cX11_change 51 = .ok (.ifCond .eq 7, 3) := by decide +kernel
theorem dX11_change_54 : decode cX11_change 54 = .ok (.iconst 1, 1) := by decide +kernel
theorem dX11_change_55 : decode cX11_change 55 = .ok (.goto 4, 3) := by decide +kernel
theorem dX11_change_58 : decode cX11_change 58 = .ok (.iconst 0, 1) := by decide +kernel
theorem dX11_change_59 : decode cX11_change 59 = .ok (.putfield 37, 3) := by decide +kernel
theorem dX11_change_62 : decode cX11_change 62 = .ok (.aload_n 0, 1) := by decide +kernel
theorem dX11_change_63 : decode cX11_change 63 = .ok (.getfield 85, 3) := by decide +kernel
theorem dX11_change_66 : decode cX11_change 66 = .ok (.ifCond .eq 7, 3) := by decide +kernel
theorem dX11_change_69 : decode cX11_change 69 = .ok (.iconst 0, 1) := by decide +kernel
theorem dX11_change_70 : decode cX11_change 70 = .ok (.goto 15, 3) := by decide +kernel
theorem dX11_change_73 : decode cX11_change 73 = .ok (.iload_n 2, 1) := by decide +kernel
theorem dX11_change_74 : decode cX11_change 74 = .ok (.iload_n 3, 1) := by decide +kernel
theorem dX11_change_75 : decode cX11_change 75 = .ok (.if_icmp .ge 7, 3) := by decide +kernel
theorem dX11_change_78 : decode cX11_change 78 = .ok (.iconst (-1), 1) := by decide +kernel
theorem dX11_change_79 : decode cX11_change 79 = .ok (.goto 6, 3) := by decide +kernel
theorem dX11_change_82 : decode cX11_change 82 = .ok (.iload_n 2, 1) := by decide +kernel
theorem dX11_change_83 : decode cX11_change 83 = .ok (.iload_n 3, 1) := by decide +kernel
theorem dX11_change_84 : decode cX11_change 84 = .ok (.isub, 1) := by decide +kernel
theorem dX11_change_85 : decode cX11_change 85 = .ok (.ireturn, 1) := by decide +kernel
theorem dX11_fire_0 : decode cX11_fire 0 = .ok (.aload_n 0, 1) := by decide +kernel
theorem dX11_fire_1 : decode cX11_fire 1 = .ok (.iconst 0, 1) := by decide +kernel
theorem dX11_fire_2 : decode cX11_fire 2 = .ok (.putfield 37, 3) := by decide +kernel
theorem dX11_fire_5 : decode cX11_fire 5 = .ok (.iload_n 1, 1) := by decide +kernel
theorem dX11_fire_6 : decode cX11_fire 6 = .ok (.iconst 0, 1) := by decide +kernel
theorem dX11_fire_7 : decode cX11_fire 7 = .ok (.sipush 400, 3) := by decide +kernel
theorem dX11_fire_10 : decode cX11_fire 10 = .ok (.invokestatic 44, 3) := by decide +kernel
theorem dX11_fire_13 : decode cX11_fire 13 = .ok (.ifCond .ne 6, 3) := by decide +kernel
theorem dX11_fire_16 : decode cX11_fire 16 = .ok (.bipush (-102), 2) := by decide +kernel
theorem dX11_fire_18 : decode cX11_fire 18 = .ok (.ireturn, 1) := by decide +kernel
theorem dX11_fire_19 : decode cX11_fire 19 = .ok (.iconst 0, 1) := by decide +kernel
theorem dX11_fire_20 : decode cX11_fire 20 = .ok (.istore_n 2, 1) := by decide +kernel
theorem dX11_fire_21 : decode cX11_fire 21 = .ok (.iconst 0, 1) := by decide +kernel
theorem dX11_fire_22 : decode cX11_fire 22 = .ok (.istore_n 3, 1) := by decide +kernel
theorem dX11_fire_23 : decode cX11_fire 23 = .ok (.iload_n 3, 1) := by decide +kernel
theorem dX11_fire_24 : decode cX11_fire 24 = .ok (.iconst 4, 1) := by decide +kernel
theorem dX11_fire_25 : decode cX11_fire 25 = .ok (.if_icmp .ge 67, 3) := by decide +kernel
theorem dX11_fire_28 : decode cX11_fire 28 = .ok (.iconst 0, 1) := by decide +kernel
theorem dX11_fire_29 : decode cX11_fire 29 = .ok (.istore 4, 2) := by decide +kernel
theorem dX11_fire_31 : decode cX11_fire 31 = .ok (.iload 4, 2) := by decide +kernel
theorem dX11_fire_33 : decode cX11_fire 33 = .ok (.aload_n 0, 1) := by decide +kernel
theorem dX11_fire_34 : decode cX11_fire 34 = .ok (.getfield 28, 3) := by decide +kernel
theorem dX11_fire_37 : decode cX11_fire 37 = .ok (.iload_n 3, 1) := by decide +kernel
theorem dX11_fire_38 : decode cX11_fire 38 = .ok (.iaload, 1) := by decide +kernel
theorem dX11_fire_39 : decode cX11_fire 39 = .ok (.if_icmp .ge 47, 3) := by decide +kernel
theorem dX11_fire_42 : decode cX11_fire 42 = .ok (.aload_n 0, 1) := by decide +kernel
theorem dX11_fire_43 : decode cX11_fire 43 = .ok (.getfield 31, 3) := by decide +kernel
theorem dX11_fire_46 : decode cX11_fire 46 = .ok (.bipush 8, 2) := by decide +kernel
theorem dX11_fire_48 : decode cX11_fire 48 = .ok (.iload_n 3, 1) := by decide +kernel
theorem dX11_fire_49 : decode cX11_fire 49 = .ok (.imul, 1) := by decide +kernel
theorem dX11_fire_50 : decode cX11_fire 50 = .ok (.iload 4, 2) := by decide +kernel
theorem dX11_fire_52 : decode cX11_fire 52 = .ok (.iadd, 1) := by decide +kernel
theorem dX11_fire_53 : decode cX11_fire 53 = .ok (.iaload, 1) := by decide +kernel
theorem dX11_fire_54 : decode cX11_fire 54 = .ok (.istore 5, 2) := by decide +kernel
theorem dX11_fire_56 : decode cX11_fire 56 = .ok (.iload_n 2, 1) := by decide +kernel
theorem dX11_fire_57 : decode cX11_fire 57 = .ok (.iload 5, 2) := by decide +kernel
theorem dX11_fire_59 : decode cX11_fire 59 = .ok (.iconst (-1), 1) := by decide +kernel
theorem dX11_fire_60 : decode cX11_fire 60 = .ok (.if_icmp .eq 17, 3) := by decide +kernel
theorem dX11_fire_63 : decode cX11_fire 63 = .ok (.aload_n 0, 1) := by decide +kernel
theorem dX11_fire_64 : decode cX11_fire 64 = .ok (.iload 5, 2) := by decide +kernel
theorem dX11_fire_66 : decode cX11_fire 66 = .ok (.iload_n 1, 1) := by decide +kernel
theorem dX11_fire_67 : decode cX11_fire 67 = .ok (.invokevirtual 115, 3) := by decide +kernel
theorem dX11_fire_70 : decode cX11_fire 70 = .ok (.ifCond .eq 7, 3) := by decide +kernel
theorem dX11_fire_73 : decode cX11_fire 73 = .ok (.iconst 1, 1) := by decide +kernel
theorem dX11_fire_74 : decode cX11_fire 74 = .ok (.goto 4, 3) := by decide +kernel
theorem dX11_fire_77 : decode cX11_fire 77 = .ok (.iconst 0, 1) := by decide +kernel
theorem dX11_fire_78 : decode cX11_fire 78 = .ok (.iadd, 1) := by decide +kernel
theorem dX11_fire_79 : decode cX11_fire 79 = .ok (.istore_n 2, 1) := by decide +kernel
theorem dX11_fire_80 : decode cX11_fire 80 = .ok (.iinc 4 1, 3) := by decide +kernel
theorem dX11_fire_83 : decode cX11_fire 83 = .ok (.goto (-52), 3) := by decide +kernel
theorem dX11_fire_86 : decode cX11_fire 86 = .ok (.iinc 3 1, 3) := by decide +kernel
theorem dX11_fire_89 : decode cX11_fire 89 = .ok (.goto (-66), 3) := by decide +kernel
theorem dX11_fire_92 : decode cX11_fire 92 = .ok (.iload_n 2, 1) := by decide +kernel
theorem dX11_fire_93 : decode cX11_fire 93 = .ok (.ireturn, 1) := by decide +kernel
theorem dX11_night_0 : decode cX11_night 0 = .ok (.aload_n 0, 1) := by decide +kernel
theorem dX11_night_1 : decode cX11_night 1 = .ok (.iconst 0, 1) := by decide +kernel
theorem dX11_night_2 : decode cX11_night 2 = .ok (.putfield 37, 3) := by decide +kernel
theorem dX11_night_5 : decode cX11_night 5 = .ok (.iload_n 1, 1) := by decide +kernel
theorem dX11_night_6 : decode cX11_night 6 = .ok (.iconst 0, 1) := by decide +kernel
theorem dX11_night_7 : decode cX11_night 7 = .ok (.sipush 600, 3) := by decide +kernel
theorem dX11_night_10 : decode cX11_night 10 = .ok (.invokestatic 44, 3) := by decide +kernel
theorem dX11_night_13 : decode cX11_night 13 = .ok (.ifCond .ne 6, 3) := by decide +kernel
theorem dX11_night_16 : decode cX11_night 16 = .ok (.bipush (-102), 2) := by decide +kernel
theorem dX11_night_18 : decode cX11_night 18 = .ok (.ireturn, 1) := by decide +kernel
theorem dX11_night_19 : decode cX11_night 19 = .ok (.iconst 0, 1) := by decide +kernel
theorem dX11_night_20 : decode cX11_night 20 = .ok (.istore_n 2, 1) := by decide +kernel
theorem dX11_night_21 : decode cX11_night 21 = .ok (.iconst 0, 1) := by decide +kernel
theorem dX11_night_22 : decode cX11_night 22 = .ok (.istore_n 3, 1) := by decide +kernel
theorem dX11_night_23 : decode cX11_night 23 = .ok (.iload_n 3, 1) := by decide +kernel
theorem dX11_night_24 : decode cX11_night 24 = .ok (.aload_n 0, 1) := by decide +kernel
theorem dX11_night_25 : decode cX11_night 25 = .ok (.getfield 41, 3) := by decide +kernel
theorem dX11_night_28 : decode cX11_night 28 = .ok (.if_icmp .ge 32, 3) := by decide +kernel
theorem dX11_night_31 : decode cX11_night 31 = .ok (.aload_n 0, 1) := by decide +kernel
theorem dX11_night_32 : decode cX11_night 32 = .ok (.iload_n 3, 1) := by decide +kernel
theorem dX11_night_33 : decode cX11_night 33 = .ok (.iload_n 1, 1) := by decide +kernel
theorem dX11_night_34 : decode cX11_night 34 = .ok (.invokevirtual 105, 3) := by decide +kernel
theorem dX11_night_37 : decode cX11_night 37 = .ok (.istore 4, 2) := by decide +kernel
theorem dX11_night_39 : decode cX11_night 39 = .ok (.iload_n 2, 1) := by decide +kernel
theorem dX11_night_40 : decode cX11_night 40 = .ok (.aload_n 0, 1) := by decide +kernel
theorem dX11_night_41 : decode cX11_night 41 = .ok (.getfield 61, 3) := by decide +kernel
theorem dX11_night_44 : decode cX11_night 44 = .ok (.ifCond .eq 7, 3) := by decide +kernel
theorem dX11_night_47 : decode cX11_night 47 = .ok (.iconst 1, 1) := by decide +kernel
theorem dX11_night_48 : decode cX11_night 48 = .ok (.goto 4, 3) := by decide +kernel
theorem dX11_night_51 : decode cX11_night 51 = .ok (.iconst 0, 1) := by decide +kernel
theorem dX11_night_52 : decode cX11_night 52 = .ok (.iadd, 1) := by decide +kernel
theorem dX11_night_53 : decode cX11_night 53 = .ok (.istore_n 2, 1) := by decide +kernel
theorem dX11_night_54 : decode cX11_night 54 = .ok (.iinc 3 1, 3) := by decide +kernel
theorem dX11_night_57 : decode cX11_night 57 = .ok (.goto (-34), 3) := by decide +kernel
theorem dX11_night_60 : decode cX11_night 60 = .ok (.iload_n 2, 1) := by decide +kernel
theorem dX11_night_61 : decode cX11_night 61 = .ok (.ireturn, 1) := by decide +kernel
theorem dX11_at_0 : decode cX11_at 0 = .ok (.aload_n 0, 1) := by decide +kernel
theorem dX11_at_1 : decode cX11_at 1 = .ok (.iconst 0, 1) := by decide +kernel
theorem dX11_at_2 : decode cX11_at 2 = .ok (.putfield 37, 3) := by decide +kernel
theorem dX11_at_5 : decode cX11_at 5 = .ok (.iload_n 1, 1) := by decide +kernel
theorem dX11_at_6 : decode cX11_at 6 = .ok (.invokestatic 98, 3) := by decide +kernel
theorem dX11_at_9 : decode cX11_at 9 = .ok (.ifCond .ne 6, 3) := by decide +kernel
theorem dX11_at_12 : decode cX11_at 12 = .ok (.bipush (-102), 2) := by decide +kernel
theorem dX11_at_14 : decode cX11_at 14 = .ok (.ireturn, 1) := by decide +kernel
theorem dX11_at_15 : decode cX11_at 15 = .ok (.iload_n 2, 1) := by decide +kernel
theorem dX11_at_16 : decode cX11_at 16 = .ok (.iconst 0, 1) := by decide +kernel
theorem dX11_at_17 : decode cX11_at 17 = .ok (.aload_n 0, 1) := by decide +kernel
theorem dX11_at_18 : decode cX11_at 18 = .ok (.getfield 28, 3) := by decide +kernel
theorem dX11_at_21 : decode cX11_at 21 = .ok (.iload_n 1, 1) := by decide +kernel
theorem dX11_at_22 : decode cX11_at 22 = .ok (.iaload, 1) := by decide +kernel
theorem dX11_at_23 : decode cX11_at 23 = .ok (.iconst 1, 1) := by decide +kernel
theorem dX11_at_24 : decode cX11_at 24 = .ok (.isub, 1) := by decide +kernel
theorem dX11_at_25 : decode cX11_at 25 = .ok (.invokestatic 44, 3) := by decide +kernel
theorem dX11_at_28 : decode cX11_at 28 = .ok (.ifCond .eq 17, 3) := by decide +kernel
theorem dX11_at_31 : decode cX11_at 31 = .ok (.aload_n 0, 1) := by decide +kernel
theorem dX11_at_32 : decode cX11_at 32 = .ok (.getfield 31, 3) := by decide +kernel
theorem dX11_at_35 : decode cX11_at 35 = .ok (.bipush 8, 2) := by decide +kernel
theorem dX11_at_37 : decode cX11_at 37 = .ok (.iload_n 1, 1) := by decide +kernel
theorem dX11_at_38 : decode cX11_at 38 = .ok (.imul, 1) := by decide +kernel
theorem dX11_at_39 : decode cX11_at 39 = .ok (.iload_n 2, 1) := by decide +kernel
theorem dX11_at_40 : decode cX11_at 40 = .ok (.iadd, 1) := by decide +kernel
theorem dX11_at_41 : decode cX11_at 41 = .ok (.iaload, 1) := by decide +kernel
theorem dX11_at_42 : decode cX11_at 42 = .ok (.goto 4, 3) := by decide +kernel
theorem dX11_at_45 : decode cX11_at 45 = .ok (.iconst (-1), 1) := by decide +kernel
theorem dX11_at_46 : decode cX11_at 46 = .ok (.ireturn, 1) := by decide +kernel
theorem dX11_places_0 : decode cX11_places 0 = .ok (.aload_n 0, 1) := by decide +kernel
theorem dX11_places_1 : decode cX11_places 1 = .ok (.iconst 0, 1) := by decide +kernel
theorem dX11_places_2 : decode cX11_places 2 = .ok (.putfield 37, 3) := by decide +kernel
theorem dX11_places_5 : decode cX11_places 5 = .ok (.iload_n 1, 1) := by decide +kernel
theorem dX11_places_6 : decode cX11_places 6 = .ok (.invokestatic 98, 3) := by decide +kernel
theorem dX11_places_9 : decode cX11_places 9 = .ok (.ifCond .eq 12, 3) := by decide +kernel
theorem dX11_places_12 : decode cX11_places 12 = .ok (.aload_n 0, 1) := by decide +kernel
theorem dX11_places_13 : decode cX11_places 13 = .ok (.getfield 28, 3) := by decide +kernel
theorem dX11_places_16 : decode cX11_places 16 = .ok (.iload_n 1, 1) := by decide +kernel
theorem dX11_places_17 : decode cX11_places 17 = .ok (.iaload, 1) := by decide +kernel
theorem dX11_places_18 : decode cX11_places 18 = .ok (.goto 5, 3) := by decide +kernel
theorem dX11_places_21 : decode cX11_places 21 = .ok (.bipush (-102), 2) := by decide +kernel
theorem dX11_places_23 : decode cX11_places 23 = .ok (.ireturn, 1) := by decide +kernel
theorem dX11_tell_0 : decode cX11_tell 0 = .ok (.aload_n 0, 1) := by decide +kernel
theorem dX11_tell_1 : decode cX11_tell 1 = .ok (.iconst 0, 1) := by decide +kernel
theorem dX11_tell_2 : decode cX11_tell 2 = .ok (.putfield 37, 3) := by decide +kernel
theorem dX11_tell_5 : decode cX11_tell 5 = .ok (.aload_n 0, 1) := by decide +kernel
theorem dX11_tell_6 : decode cX11_tell 6 = .ok (.iload_n 1, 1) := by decide +kernel
theorem dX11_tell_7 : decode cX11_tell 7 = .ok (.invokevirtual 102, 3) := by decide +kernel
theorem dX11_tell_10 : decode cX11_tell 10 = .ok (.ifCond .ne 6, 3) := by decide +kernel
theorem dX11_tell_13 : decode cX11_tell 13 = .ok (.bipush (-101), 2) := by decide +kernel
theorem dX11_tell_15 : decode cX11_tell 15 = .ok (.ireturn, 1) := by decide +kernel
theorem dX11_tell_16 : decode cX11_tell 16 = .ok (.iload_n 2, 1) := by decide +kernel
theorem dX11_tell_17 : decode cX11_tell 17 = .ok (.tableswitch 81 0 5 #[39, 46, 53, 60, 67, 74], 39) := by decide +kernel
theorem dX11_tell_56 : decode cX11_tell 56 = .ok (.aload_n 0, 1) := by decide +kernel
theorem dX11_tell_57 : decode cX11_tell 57 = .ok (.getfield 7, 3) := by decide +kernel
theorem dX11_tell_60 : decode cX11_tell 60 = .ok (.iload_n 1, 1) := by decide +kernel
theorem dX11_tell_61 : decode cX11_tell 61 = .ok (.iaload, 1) := by decide +kernel
theorem dX11_tell_62 : decode cX11_tell 62 = .ok (.ireturn, 1) := by decide +kernel
theorem dX11_tell_63 : decode cX11_tell 63 = .ok (.aload_n 0, 1) := by decide +kernel
theorem dX11_tell_64 : decode cX11_tell 64 = .ok (.getfield 13, 3) := by decide +kernel
theorem dX11_tell_67 : decode cX11_tell 67 = .ok (.iload_n 1, 1) := by decide +kernel
theorem dX11_tell_68 : decode cX11_tell 68 = .ok (.iaload, 1) := by decide +kernel
theorem dX11_tell_69 : decode cX11_tell 69 = .ok (.ireturn, 1) := by decide +kernel
theorem dX11_tell_70 : decode cX11_tell 70 = .ok (.aload_n 0, 1) := by decide +kernel
theorem dX11_tell_71 : decode cX11_tell 71 = .ok (.getfield 16, 3) := by decide +kernel
theorem dX11_tell_74 : decode cX11_tell 74 = .ok (.iload_n 1, 1) := by decide +kernel
theorem dX11_tell_75 : decode cX11_tell 75 = .ok (.iaload, 1) := by decide +kernel
theorem dX11_tell_76 : decode cX11_tell 76 = .ok (.ireturn, 1) := by decide +kernel
theorem dX11_tell_77 : decode cX11_tell 77 = .ok (.aload_n 0, 1) := by decide +kernel
theorem dX11_tell_78 : decode cX11_tell 78 = .ok (.getfield 19, 3) := by decide +kernel
theorem dX11_tell_81 : decode cX11_tell 81 = .ok (.iload_n 1, 1) := by decide +kernel
theorem dX11_tell_82 : decode cX11_tell 82 = .ok (.iaload, 1) := by decide +kernel
theorem dX11_tell_83 : decode cX11_tell 83 = .ok (.ireturn, 1) := by decide +kernel
theorem dX11_tell_84 : decode cX11_tell 84 = .ok (.aload_n 0, 1) := by decide +kernel
theorem dX11_tell_85 : decode cX11_tell 85 = .ok (.getfield 22, 3) := by decide +kernel
theorem dX11_tell_88 : decode cX11_tell 88 = .ok (.iload_n 1, 1) := by decide +kernel
theorem dX11_tell_89 : decode cX11_tell 89 = .ok (.iaload, 1) := by decide +kernel
theorem dX11_tell_90 : decode cX11_tell 90 = .ok (.ireturn, 1) := by decide +kernel
theorem dX11_tell_91 : decode cX11_tell 91 = .ok (.aload_n 0, 1) := by decide +kernel
theorem dX11_tell_92 : decode cX11_tell 92 = .ok (.getfield 25, 3) := by decide +kernel
theorem dX11_tell_95 : decode cX11_tell 95 = .ok (.iload_n 1, 1) := by decide +kernel
theorem dX11_tell_96 : decode cX11_tell 96 = .ok (.iaload, 1) := by decide +kernel
theorem dX11_tell_97 : decode cX11_tell 97 = .ok (.ireturn, 1) := by decide +kernel
theorem dX11_tell_98 : decode cX11_tell 98 = .ok (.bipush (-102), 2) := by decide +kernel
theorem dX11_tell_100 : decode cX11_tell 100 = .ok (.ireturn, 1) := by decide +kernel
theorem dX11_book_0 : decode cX11_book 0 = .ok (.aload_n 0, 1) := by decide +kernel
theorem dX11_book_1 : decode cX11_book 1 = .ok (.iconst 0, 1) := by decide +kernel
theorem dX11_book_2 : decode cX11_book 2 = .ok (.putfield 37, 3) := by decide +kernel
theorem dX11_book_5 : decode cX11_book 5 = .ok (.iload_n 1, 1) := by decide +kernel
theorem dX11_book_6 : decode cX11_book 6 = .ok (.ifCond .lt 36, 3) := by decide +kernel
theorem dX11_book_9 : decode cX11_book 9 = .ok (.iload_n 1, 1) := by decide +kernel
theorem dX11_book_10 : decode cX11_book 10 = .ok (.aload_n 0, 1) := by decide +kernel
theorem dX11_book_11 : decode cX11_book 11 = .ok (.getfield 48, 3) := by decide +kernel
theorem dX11_book_14 : decode cX11_book 14 = .ok (.if_icmp .ge 28, 3) := by decide +kernel
theorem dX11_book_17 : decode cX11_book 17 = .ok (.iload_n 1, 1) := by decide +kernel
theorem dX11_book_18 : decode cX11_book 18 = .ok (.bipush 100, 2) := by decide +kernel
theorem dX11_book_20 : decode cX11_book 20 = .ok (.if_icmp .ge 22, 3) := by decide +kernel
theorem dX11_book_23 : decode cX11_book 23 = .ok (.aload_n 0, 1) := by decide +kernel
theorem dX11_book_24 : decode cX11_book 24 = .ok (.getfield 34, 3) := by decide +kernel
theorem dX11_book_27 : decode cX11_book 27 = .ok (.aload_n 0, 1) := by decide +kernel
theorem dX11_book_28 : decode cX11_book 28 = .ok (.getfield 48, 3) := by decide +kernel
theorem dX11_book_31 : decode cX11_book 31 = .ok (.iconst 1, 1) := by decide +kernel
theorem dX11_book_32 : decode cX11_book 32 = .ok (.isub, 1) := by decide +kernel
theorem dX11_book_33 : decode cX11_book 33 = .ok (.iload_n 1, 1) := by decide +kernel
theorem dX11_book_34 : decode cX11_book 34 = .ok (.isub, 1) := by decide +kernel
theorem dX11_book_35 : decode cX11_book 35 = .ok (.bipush 100, 2) := by decide +kernel
theorem dX11_book_37 : decode cX11_book 37 = .ok (.irem, 1) := by decide +kernel
theorem dX11_book_38 : decode cX11_book 38 = .ok (.iaload, 1) := by decide +kernel
theorem dX11_book_39 : decode cX11_book 39 = .ok (.goto 4, 3) := by decide +kernel
theorem dX11_book_42 : decode cX11_book 42 = .ok (.iconst (-1), 1) := by decide +kernel
theorem dX11_book_43 : decode cX11_book 43 = .ok (.ireturn, 1) := by decide +kernel
theorem dX11_count_0 : decode cX11_count 0 = .ok (.aload_n 0, 1) := by decide +kernel
theorem dX11_count_1 : decode cX11_count 1 = .ok (.iconst 0, 1) := by decide +kernel
theorem dX11_count_2 : decode cX11_count 2 = .ok (.putfield 37, 3) := by decide +kernel
theorem dX11_count_5 : decode cX11_count 5 = .ok (.iload_n 1, 1) := by decide +kernel
theorem dX11_count_6 : decode cX11_count 6 = .ok (.tableswitch 59 0 4 #[34, 39, 44, 49, 54], 34) := by decide +kernel
theorem dX11_count_40 : decode cX11_count 40 = .ok (.aload_n 0, 1) := by decide +kernel
theorem dX11_count_41 : decode cX11_count 41 = .ok (.getfield 41, 3) := by decide +kernel
theorem dX11_count_44 : decode cX11_count 44 = .ok (.ireturn, 1) := by decide +kernel
theorem dX11_count_45 : decode cX11_count 45 = .ok (.aload_n 0, 1) := by decide +kernel
theorem dX11_count_46 : decode cX11_count 46 = .ok (.getfield 48, 3) := by decide +kernel
theorem dX11_count_49 : decode cX11_count 49 = .ok (.ireturn, 1) := by decide +kernel
theorem dX11_count_50 : decode cX11_count 50 = .ok (.aload_n 0, 1) := by decide +kernel
theorem dX11_count_51 : decode cX11_count 51 = .ok (.getfield 68, 3) := by decide +kernel
theorem dX11_count_54 : decode cX11_count 54 = .ok (.ireturn, 1) := by decide +kernel
theorem dX11_count_55 : decode cX11_count 55 = .ok (.aload_n 0, 1) := by decide +kernel
theorem dX11_count_56 : decode cX11_count 56 = .ok (.getfield 112, 3) := by decide +kernel
theorem dX11_count_59 : decode cX11_count 59 = .ok (.ireturn, 1) := by decide +kernel
theorem dX11_count_60 : decode cX11_count 60 = .ok (.aload_n 0, 1) := by decide +kernel
theorem dX11_count_61 : decode cX11_count 61 = .ok (.getfield 92, 3) := by decide +kernel
theorem dX11_count_64 : decode cX11_count 64 = .ok (.ireturn, 1) := by decide +kernel
theorem dX11_count_65 : decode cX11_count 65 = .ok (.bipush (-102), 2) := by decide +kernel
theorem dX11_count_67 : decode cX11_count 67 = .ok (.ireturn, 1) := by decide +kernel
end
section
theorem dL_shelf_0 : decode cL_shelf 0 = .ok (.aload_n 3, 1) := by decide +kernel
theorem dL_shelf_1 : decode cL_shelf 1 = .ok (.iconst 0, 1) := by decide +kernel
theorem dL_shelf_2 : decode cL_shelf 2 = .ok (.aload_n 0, 1) := by decide +kernel
theorem dL_shelf_3 : decode cL_shelf 3 = .ok (.iload_n 1, 1) := by decide +kernel
theorem dL_shelf_4 : decode cL_shelf 4 = .ok (.iload_n 2, 1) := by decide +kernel
theorem dL_shelf_5 : decode cL_shelf 5 = .ok (.invokevirtual 7, 3) := by decide +kernel
theorem dL_shelf_8 : decode cL_shelf 8 = .ok (.i2l, 1) := by decide +kernel
theorem dL_shelf_9 : decode cL_shelf 9 = .ok (.lastore, 1) := by decide +kernel
theorem dL_shelf_10 : decode cL_shelf 10 = .ok (.goto 7, 3) := by decide +kernel
theorem dL_shelf_13 : decode cL_shelf 13 = .ok (.astore 4, 2) := by decide +kernel
theorem dL_shelf_15 : decode cL_shelf 15 = .ok (.iconst 1, 1) := by decide +kernel
theorem dL_shelf_16 : decode cL_shelf 16 = .ok (.ireturn, 1) := by decide +kernel
theorem dL_shelf_17 : decode cL_shelf 17 = .ok (.iconst 0, 1) := by decide +kernel
theorem dL_shelf_18 : decode cL_shelf 18 = .ok (.ireturn, 1) := by decide +kernel
theorem dL_rest_0 : decode cL_rest 0 = .ok (.aload_n 3, 1) := by decide +kernel
theorem dL_rest_1 : decode cL_rest 1 = .ok (.iconst 0, 1) := by decide +kernel
theorem dL_rest_2 : decode cL_rest 2 = .ok (.aload_n 0, 1) := by decide +kernel
theorem dL_rest_3 : decode cL_rest 3 = .ok (.iload_n 1, 1) := by decide +kernel
theorem dL_rest_4 : decode cL_rest 4 = .ok (.iload_n 2, 1) := by decide +kernel
theorem dL_rest_5 : decode cL_rest 5 = .ok (.invokevirtual 15, 3) := by decide +kernel
theorem dL_rest_8 : decode cL_rest 8 = .ok (.i2l, 1) := by decide +kernel
theorem dL_rest_9 : decode cL_rest 9 = .ok (.lastore, 1) := by decide +kernel
theorem dL_rest_10 : decode cL_rest 10 = .ok (.goto 7, 3) := by decide +kernel
theorem dL_rest_13 : decode cL_rest 13 = .ok (.astore 4, 2) := by decide +kernel
theorem dL_rest_15 : decode cL_rest 15 = .ok (.iconst 1, 1) := by decide +kernel
theorem dL_rest_16 : decode cL_rest 16 = .ok (.ireturn, 1) := by decide +kernel
theorem dL_rest_17 : decode cL_rest 17 = .ok (.iconst 0, 1) := by decide +kernel
theorem dL_rest_18 : decode cL_rest 18 = .ok (.ireturn, 1) := by decide +kernel
theorem dL_lay_0 : decode cL_lay 0 = .ok (.aload 4, 2) := by decide +kernel
theorem dL_lay_2 : decode cL_lay 2 = .ok (.iconst 0, 1) := by decide +kernel
theorem dL_lay_3 : decode cL_lay 3 = .ok (.aload_n 0, 1) := by decide +kernel
theorem dL_lay_4 : decode cL_lay 4 = .ok (.iload_n 1, 1) := by decide +kernel
theorem dL_lay_5 : decode cL_lay 5 = .ok (.iload_n 2, 1) := by decide +kernel
theorem dL_lay_6 : decode cL_lay 6 = .ok (.iload_n 3, 1) := by decide +kernel
theorem dL_lay_7 : decode cL_lay 7 = .ok (.invokevirtual 20, 3) := by decide +kernel
theorem dL_lay_10 : decode cL_lay 10 = .ok (.i2l, 1) := by decide +kernel
theorem dL_lay_11 : decode cL_lay 11 = .ok (.lastore, 1) := by decide +kernel
theorem dL_lay_12 : decode cL_lay 12 = .ok (.goto 11, 3) := by decide +kernel
theorem dL_lay_15 : decode cL_lay 15 = .ok (.astore 5, 2) := by decide +kernel
theorem dL_lay_17 : decode cL_lay 17 = .ok (.iconst 1, 1) := by decide +kernel
theorem dL_lay_18 : decode cL_lay 18 = .ok (.ireturn, 1) := by decide +kernel
theorem dL_lay_19 : decode cL_lay 19 = .ok (.astore 5, 2) := by decide +kernel
theorem dL_lay_21 : decode cL_lay 21 = .ok (.iconst 2, 1) := by decide +kernel
theorem dL_lay_22 : decode cL_lay 22 = .ok (.ireturn, 1) := by decide +kernel
theorem dL_lay_23 : decode cL_lay 23 = .ok (.iconst 0, 1) := by decide +kernel
theorem dL_lay_24 : decode cL_lay 24 = .ok (.ireturn, 1) := by decide +kernel
theorem dL_worth_0 : decode cL_worth 0 = .ok (.aload_n 2, 1) := by decide +kernel
theorem dL_worth_1 : decode cL_worth 1 = .ok (.iconst 0, 1) := by decide +kernel
theorem dL_worth_2 : decode cL_worth 2 = .ok (.aload_n 0, 1) := by decide +kernel
theorem dL_worth_3 : decode cL_worth 3 = .ok (.iload_n 1, 1) := by decide +kernel
theorem dL_worth_4 : decode cL_worth 4 = .ok (.invokevirtual 28, 3) := by decide +kernel
theorem dL_worth_7 : decode cL_worth 7 = .ok (.i2l, 1) := by decide +kernel
theorem dL_worth_8 : decode cL_worth 8 = .ok (.lastore, 1) := by decide +kernel
theorem dL_worth_9 : decode cL_worth 9 = .ok (.goto 6, 3) := by decide +kernel
theorem dL_worth_12 : decode cL_worth 12 = .ok (.astore_n 3, 1) := by decide +kernel
theorem dL_worth_13 : decode cL_worth 13 = .ok (.iconst 1, 1) := by decide +kernel
theorem dL_worth_14 : decode cL_worth 14 = .ok (.ireturn, 1) := by decide +kernel
theorem dL_worth_15 : decode cL_worth 15 = .ok (.iconst 0, 1) := by decide +kernel
theorem dL_worth_16 : decode cL_worth 16 = .ok (.ireturn, 1) := by decide +kernel
theorem dL_cost_0 : decode cL_cost 0 = .ok (.aload_n 2, 1) := by decide +kernel
theorem dL_cost_1 : decode cL_cost 1 = .ok (.iconst 0, 1) := by decide +kernel
theorem dL_cost_2 : decode cL_cost 2 = .ok (.aload_n 0, 1) := by decide +kernel
theorem dL_cost_3 : decode cL_cost 3 = .ok (.iload_n 1, 1) := by decide +kernel
theorem dL_cost_4 : decode cL_cost 4 = .ok (.invokevirtual 34, 3) := by decide +kernel
theorem dL_cost_7 : decode cL_cost 7 = .ok (.i2l, 1) := by decide +kernel
theorem dL_cost_8 : decode cL_cost 8 = .ok (.lastore, 1) := by decide +kernel
theorem dL_cost_9 : decode cL_cost 9 = .ok (.goto 6, 3) := by decide +kernel
theorem dL_cost_12 : decode cL_cost 12 = .ok (.astore_n 3, 1) := by decide +kernel
theorem dL_cost_13 : decode cL_cost 13 = .ok (.iconst 1, 1) := by decide +kernel
theorem dL_cost_14 : decode cL_cost 14 = .ok (.ireturn, 1) := by decide +kernel
theorem dL_cost_15 : decode cL_cost 15 = .ok (.iconst 0, 1) := by decide +kernel
theorem dL_cost_16 : decode cL_cost 16 = .ok (.ireturn, 1) := by decide +kernel
theorem dL_change_0 : decode cL_change 0 = .ok (.aload_n 3, 1) := by decide +kernel
theorem dL_change_1 : decode cL_change 1 = .ok (.iconst 0, 1) := by decide +kernel
theorem dL_change_2 : decode cL_change 2 = .ok (.aload_n 0, 1) := by decide +kernel
theorem dL_change_3 : decode cL_change 3 = .ok (.iload_n 1, 1) := by decide +kernel
theorem dL_change_4 : decode cL_change 4 = .ok (.iload_n 2, 1) := by decide +kernel
theorem dL_change_5 : decode cL_change 5 = .ok (.invokevirtual 37, 3) := by decide +kernel
theorem dL_change_8 : decode cL_change 8 = .ok (.i2l, 1) := by decide +kernel
theorem dL_change_9 : decode cL_change 9 = .ok (.lastore, 1) := by decide +kernel
theorem dL_change_10 : decode cL_change 10 = .ok (.goto 7, 3) := by decide +kernel
theorem dL_change_13 : decode cL_change 13 = .ok (.astore 4, 2) := by decide +kernel
theorem dL_change_15 : decode cL_change 15 = .ok (.iconst 1, 1) := by decide +kernel
theorem dL_change_16 : decode cL_change 16 = .ok (.ireturn, 1) := by decide +kernel
theorem dL_change_17 : decode cL_change 17 = .ok (.iconst 0, 1) := by decide +kernel
theorem dL_change_18 : decode cL_change 18 = .ok (.ireturn, 1) := by decide +kernel
end
section
theorem dL_law_0 : decode cL_law 0 = .ok (.new 8, 3) := by decide +kernel
theorem dL_law_3 : decode cL_law 3 = .ok (.dup, 1) := by decide +kernel
theorem dL_law_4 : decode cL_law 4 = .ok (.invokespecial 40, 3) := by decide +kernel
theorem dL_law_7 : decode cL_law 7 = .ok (.astore_n 1, 1) := by decide +kernel
theorem dL_law_8 : decode cL_law 8 = .ok (.new 41, 3) := by decide +kernel
theorem dL_law_11 : decode cL_law 11 = .ok (.dup, 1) := by decide +kernel
theorem dL_law_12 : decode cL_law 12 = .ok (.invokespecial 43, 3) := by decide +kernel
theorem dL_law_15 : decode cL_law 15 = .ok (.astore_n 2, 1) := by decide +kernel
theorem dL_law_16 : decode cL_law 16 = .ok (.iconst 1, 1) := by decide +kernel
theorem dL_law_17 : decode cL_law 17 = .ok (.newarray .long, 2) := by decide +kernel
theorem dL_law_19 : decode cL_law 19 = .ok (.astore_n 3, 1) := by decide +kernel
theorem dL_law_20 : decode cL_law 20 = .ok (.iconst 0, 1) := by decide +kernel
theorem dL_law_21 : decode cL_law 21 = .ok (.istore 4, 2) := by decide +kernel
theorem dL_law_23 : decode cL_law 23 = .ok (.iload 4, 2) := by decide +kernel
theorem dL_law_25 : decode cL_law 25 = .ok (.aload_n 0, 1) := by decide +kernel
theorem dL_law_26 : decode cL_law 26 = .ok (.arraylength, 1) := by decide +kernel
theorem dL_law_27 : decode cL_law 27 = .ok (.iconst 4, 1) := by decide +kernel
theorem dL_law_28 : decode cL_law 28 = .ok (.isub, 1) := by decide +kernel
theorem dL_law_29 : decode cL_law 29 = .ok (.if_icmp .gt 816, 3) := by decide +kernel
theorem dL_law_32 : decode cL_law 32 = .ok (.aload_n 0, 1) := by decide +kernel
theorem dL_law_33 : decode cL_law 33 = .ok (.iload 4, 2) := by decide +kernel
theorem dL_law_35 : decode cL_law 35 = .ok (.iaload, 1) := by decide +kernel
theorem dL_law_36 : decode cL_law 36 = .ok (.bipush 31, 2) := by decide +kernel
theorem dL_law_38 : decode cL_law 38 = .ok (.iand, 1) := by decide +kernel
theorem dL_law_39 : decode cL_law 39 = .ok (.tableswitch 800 0 16 #[81, 118, 186, 211, 279, 304, 384, 421, 477, 533, 601, 626, 651, 688, 713, 750, 775], 81) := by decide +kernel
theorem dL_law_120 : decode cL_law 120 = .ok (.aload_n 1, 1) := by decide +kernel
theorem dL_law_121 : decode cL_law 121 = .ok (.aload_n 0, 1) := by decide +kernel
theorem dL_law_122 : decode cL_law 122 = .ok (.iload 4, 2) := by decide +kernel
theorem dL_law_124 : decode cL_law 124 = .ok (.iconst 1, 1) := by decide +kernel
theorem dL_law_125 : decode cL_law 125 = .ok (.iadd, 1) := by decide +kernel
theorem dL_law_126 : decode cL_law 126 = .ok (.iaload, 1) := by decide +kernel
theorem dL_law_127 : decode cL_law 127 = .ok (.aload_n 0, 1) := by decide +kernel
theorem dL_law_128 : decode cL_law 128 = .ok (.iload 4, 2) := by decide +kernel
theorem dL_law_130 : decode cL_law 130 = .ok (.iconst 2, 1) := by decide +kernel
theorem dL_law_131 : decode cL_law 131 = .ok (.iadd, 1) := by decide +kernel
theorem dL_law_132 : decode cL_law 132 = .ok (.iaload, 1) := by decide +kernel
theorem dL_law_133 : decode cL_law 133 = .ok (.invokevirtual 44, 3) := by decide +kernel
theorem dL_law_136 : decode cL_law 136 = .ok (.aload_n 2, 1) := by decide +kernel
theorem dL_law_137 : decode cL_law 137 = .ok (.aload_n 0, 1) := by decide +kernel
theorem dL_law_138 : decode cL_law 138 = .ok (.iload 4, 2) := by decide +kernel
theorem dL_law_140 : decode cL_law 140 = .ok (.iconst 1, 1) := by decide +kernel
theorem dL_law_141 : decode cL_law 141 = .ok (.iadd, 1) := by decide +kernel
theorem dL_law_142 : decode cL_law 142 = .ok (.iaload, 1) := by decide +kernel
theorem dL_law_143 : decode cL_law 143 = .ok (.aload_n 0, 1) := by decide +kernel
theorem dL_law_144 : decode cL_law 144 = .ok (.iload 4, 2) := by decide +kernel
theorem dL_law_146 : decode cL_law 146 = .ok (.iconst 2, 1) := by decide +kernel
theorem dL_law_147 : decode cL_law 147 = .ok (.iadd, 1) := by decide +kernel
theorem dL_law_148 : decode cL_law 148 = .ok (.iaload, 1) := by decide +kernel
theorem dL_law_149 : decode cL_law 149 = .ok (.invokevirtual 47, 3) := by decide +kernel
theorem dL_law_152 : decode cL_law 152 = .ok (.if_icmp .eq 687, 3) := by decide +kernel
theorem dL_law_155 : decode cL_law 155 = .ok (.iconst 0, 1) := by decide +kernel
theorem dL_law_156 : decode cL_law 156 = .ok (.ireturn, 1) := by decide +kernel
theorem dL_law_157 : decode cL_law 157 = .ok (.aload_n 1, 1) := by decide +kernel
theorem dL_law_158 : decode cL_law 158 = .ok (.aload_n 0, 1) := by decide +kernel
theorem dL_law_159 : decode cL_law 159 = .ok (.iload 4, 2) := by decide +kernel
theorem dL_law_161 : decode cL_law 161 = .ok (.iconst 1, 1) := by decide +kernel
theorem dL_law_162 : decode cL_law 162 = .ok (.iadd, 1) := by decide +kernel
theorem dL_law_163 : decode cL_law 163 = .ok (.iaload, 1) := by decide +kernel
theorem dL_law_164 : decode cL_law 164 = .ok (.aload_n 0, 1) := by decide +kernel
theorem dL_law_165 : decode cL_law 165 = .ok (.iload 4, 2) := by decide +kernel
theorem dL_law_167 : decode cL_law 167 = .ok (.iconst 2, 1) := by decide +kernel
theorem dL_law_168 : decode cL_law 168 = .ok (.iadd, 1) := by decide +kernel
theorem dL_law_169 : decode cL_law 169 = .ok (.iaload, 1) := by decide +kernel
theorem dL_law_170 : decode cL_law 170 = .ok (.aload_n 3, 1) := by decide +kernel
theorem dL_law_171 : decode cL_law 171 = .ok (.invokestatic 48, 3) := by decide +kernel
theorem dL_law_174 : decode cL_law 174 = .ok (.istore 5, 2) := by decide +kernel
theorem dL_law_176 : decode cL_law 176 = .ok (.aload_n 2, 1) := by decide +kernel
theorem dL_law_177 : decode cL_law 177 = .ok (.aload_n 0, 1) := by decide +kernel
theorem dL_law_178 : decode cL_law 178 = .ok (.iload 4, 2) := by decide +kernel
theorem dL_law_180 : decode cL_law 180 = .ok (.iconst 1, 1) := by decide +kernel
theorem dL_law_181 : decode cL_law 181 = .ok (.iadd, 1) := by decide +kernel
theorem dL_law_182 : decode cL_law 182 = .ok (.iaload, 1) := by decide +kernel
theorem dL_law_183 : decode cL_law 183 = .ok (.aload_n 0, 1) := by decide +kernel
theorem dL_law_184 : decode cL_law 184 = .ok (.iload 4, 2) := by decide +kernel
theorem dL_law_186 : decode cL_law 186 = .ok (.iconst 2, 1) := by decide +kernel
theorem dL_law_187 : decode cL_law 187 = .ok (.iadd, 1) := by decide +kernel
theorem dL_law_188 : decode cL_law 188 = .ok (.iaload, 1) := by decide +kernel
theorem dL_law_189 : decode cL_law 189 = .ok (.invokevirtual 53, 3) := by decide +kernel
theorem dL_law_192 : decode cL_law 192 = .ok (.istore 6, 2) := by decide +kernel
theorem dL_law_194 : decode cL_law 194 = .ok (.aload_n 2, 1) := by decide +kernel
theorem dL_law_195 : decode cL_law 195 = .ok (.invokevirtual 54, 3) := by decide +kernel
theorem dL_law_198 : decode cL_law 198 = .ok (.iload 5, 2) := by decide +kernel
theorem dL_law_200 : decode cL_law 200 = .ok (.if_icmp .eq 5, 3) := by decide +kernel
theorem dL_law_203 : decode cL_law 203 = .ok (.iconst 0, 1) := by decide +kernel
theorem dL_law_204 : decode cL_law 204 = .ok (.ireturn, 1) := by decide +kernel
theorem dL_law_205 : decode cL_law 205 = .ok (.iload 5, 2) := by decide +kernel
theorem dL_law_207 : decode cL_law 207 = .ok (.ifCond .ne 15, 3) := by decide +kernel
theorem dL_law_210 : decode cL_law 210 = .ok (.aload_n 3, 1) := by decide +kernel
theorem dL_law_211 : decode cL_law 211 = .ok (.iconst 0, 1) := by decide +kernel
theorem dL_law_212 : decode cL_law 212 = .ok (.laload, 1) := by decide +kernel
theorem dL_law_213 : decode cL_law 213 = .ok (.iload 6, 2) := by decide +kernel
theorem dL_law_215 : decode cL_law 215 = .ok (.i2l, 1) := by decide +kernel
theorem dL_law_216 : decode cL_law 216 = .ok (.lcmp, 1) := by decide +kernel
theorem dL_law_217 : decode cL_law 217 = .ok (.ifCond .eq 5, 3) := by decide +kernel
theorem dL_law_220 : decode cL_law 220 = .ok (.iconst 0, 1) := by decide +kernel
theorem dL_law_221 : decode cL_law 221 = .ok (.ireturn, 1) := by decide +kernel
theorem dL_law_222 : decode cL_law 222 = .ok (.goto 617, 3) := by decide +kernel
theorem dL_law_225 : decode cL_law 225 = .ok (.aload_n 1, 1) := by decide +kernel
theorem dL_law_226 : decode cL_law 226 = .ok (.aload_n 0, 1) := by decide +kernel
theorem dL_law_227 : decode cL_law 227 = .ok (.iload 4, 2) := by decide +kernel
theorem dL_law_229 : decode cL_law 229 = .ok (.iconst 1, 1) := by decide +kernel
theorem dL_law_230 : decode cL_law 230 = .ok (.iadd, 1) := by decide +kernel
theorem dL_law_231 : decode cL_law 231 = .ok (.iaload, 1) := by decide +kernel
theorem dL_law_232 : decode cL_law 232 = .ok (.invokevirtual 58, 3) := by decide +kernel
theorem dL_law_235 : decode cL_law 235 = .ok (.aload_n 2, 1) := by decide +kernel
theorem dL_law_236 : decode cL_law 236 = .ok (.aload_n 0, 1) := by decide +kernel
theorem dL_law_237 : decode cL_law 237 = .ok (.iload 4, 2) := by decide +kernel
theorem dL_law_239 : decode cL_law 239 = .ok (.iconst 1, 1) := by decide +kernel
theorem dL_law_240 : decode cL_law 240 = .ok (.iadd, 1) := by decide +kernel
theorem dL_law_241 : decode cL_law 241 = .ok (.iaload, 1) := by decide +kernel
theorem dL_law_242 : decode cL_law 242 = .ok (.invokevirtual 61, 3) := by decide +kernel
theorem dL_law_245 : decode cL_law 245 = .ok (.if_icmp .eq 594, 3) := by decide +kernel
theorem dL_law_248 : decode cL_law 248 = .ok (.iconst 0, 1) := by decide +kernel
theorem dL_law_249 : decode cL_law 249 = .ok (.ireturn, 1) := by decide +kernel
theorem dL_law_250 : decode cL_law 250 = .ok (.aload_n 1, 1) := by decide +kernel
theorem dL_law_251 : decode cL_law 251 = .ok (.aload_n 0, 1) := by decide +kernel
theorem dL_law_252 : decode cL_law 252 = .ok (.iload 4, 2) := by decide +kernel
theorem dL_law_254 : decode cL_law 254 = .ok (.iconst 1, 1) := by decide +kernel
theorem dL_law_255 : decode cL_law 255 = .ok (.iadd, 1) := by decide +kernel
theorem dL_law_256 : decode cL_law 256 = .ok (.iaload, 1) := by decide +kernel
theorem dL_law_257 : decode cL_law 257 = .ok (.aload_n 0, 1) := by decide +kernel
theorem dL_law_258 : decode cL_law 258 = .ok (.iload 4, 2) := by decide +kernel
theorem dL_law_260 : decode cL_law 260 = .ok (.iconst 2, 1) := by decide +kernel
theorem dL_law_261 : decode cL_law 261 = .ok (.iadd, 1) := by decide +kernel
theorem dL_law_262 : decode cL_law 262 = .ok (.iaload, 1) := by decide +kernel
theorem dL_law_263 : decode cL_law 263 = .ok (.aload_n 3, 1) := by decide +kernel
theorem dL_law_264 : decode cL_law 264 = .ok (.invokestatic 62, 3) := by decide +kernel
theorem dL_law_267 : decode cL_law 267 = .ok (.istore 5, 2) := by decide +kernel
theorem dL_law_269 : decode cL_law 269 = .ok (.aload_n 2, 1) := by decide +kernel
theorem dL_law_270 : decode cL_law 270 = .ok (.aload_n 0, 1) := by decide +kernel
end
section
theorem dL_law_271 : decode cL_law 271 = .ok (.iload 4, 2) := by decide +kernel
theorem dL_law_273 : decode cL_law 273 = .ok (.iconst 1, 1) := by decide +kernel
theorem dL_law_274 : decode cL_law 274 = .ok (.iadd, 1) := by decide +kernel
theorem dL_law_275 : decode cL_law 275 = .ok (.iaload, 1) := by decide +kernel
theorem dL_law_276 : decode cL_law 276 = .ok (.aload_n 0, 1) := by decide +kernel
theorem dL_law_277 : decode cL_law 277 = .ok (.iload 4, 2) := by decide +kernel
theorem dL_law_279 : decode cL_law 279 = .ok (.iconst 2, 1) := by decide +kernel
theorem dL_law_280 : decode cL_law 280 = .ok (.iadd, 1) := by decide +kernel
theorem dL_law_281 : decode cL_law 281 = .ok (.iaload, 1) := by decide +kernel
theorem dL_law_282 : decode cL_law 282 = .ok (.invokevirtual 64, 3) := by decide +kernel
theorem dL_law_285 : decode cL_law 285 = .ok (.istore 6, 2) := by decide +kernel
theorem dL_law_287 : decode cL_law 287 = .ok (.aload_n 2, 1) := by decide +kernel
theorem dL_law_288 : decode cL_law 288 = .ok (.invokevirtual 54, 3) := by decide +kernel
theorem dL_law_291 : decode cL_law 291 = .ok (.iload 5, 2) := by decide +kernel
theorem dL_law_293 : decode cL_law 293 = .ok (.if_icmp .eq 5, 3) := by decide +kernel
theorem dL_law_296 : decode cL_law 296 = .ok (.iconst 0, 1) := by decide +kernel
theorem dL_law_297 : decode cL_law 297 = .ok (.ireturn, 1) := by decide +kernel
theorem dL_law_298 : decode cL_law 298 = .ok (.iload 5, 2) := by decide +kernel
theorem dL_law_300 : decode cL_law 300 = .ok (.ifCond .ne 15, 3) := by decide +kernel
theorem dL_law_303 : decode cL_law 303 = .ok (.aload_n 3, 1) := by decide +kernel
theorem dL_law_304 : decode cL_law 304 = .ok (.iconst 0, 1) := by decide +kernel
theorem dL_law_305 : decode cL_law 305 = .ok (.laload, 1) := by decide +kernel
theorem dL_law_306 : decode cL_law 306 = .ok (.iload 6, 2) := by decide +kernel
theorem dL_law_308 : decode cL_law 308 = .ok (.i2l, 1) := by decide +kernel
theorem dL_law_309 : decode cL_law 309 = .ok (.lcmp, 1) := by decide +kernel
theorem dL_law_310 : decode cL_law 310 = .ok (.ifCond .eq 5, 3) := by decide +kernel
theorem dL_law_313 : decode cL_law 313 = .ok (.iconst 0, 1) := by decide +kernel
theorem dL_law_314 : decode cL_law 314 = .ok (.ireturn, 1) := by decide +kernel
theorem dL_law_315 : decode cL_law 315 = .ok (.goto 524, 3) := by decide +kernel
theorem dL_law_318 : decode cL_law 318 = .ok (.aload_n 1, 1) := by decide +kernel
theorem dL_law_319 : decode cL_law 319 = .ok (.aload_n 0, 1) := by decide +kernel
theorem dL_law_320 : decode cL_law 320 = .ok (.iload 4, 2) := by decide +kernel
theorem dL_law_322 : decode cL_law 322 = .ok (.iconst 1, 1) := by decide +kernel
theorem dL_law_323 : decode cL_law 323 = .ok (.iadd, 1) := by decide +kernel
theorem dL_law_324 : decode cL_law 324 = .ok (.iaload, 1) := by decide +kernel
theorem dL_law_325 : decode cL_law 325 = .ok (.invokevirtual 65, 3) := by decide +kernel
theorem dL_law_328 : decode cL_law 328 = .ok (.aload_n 2, 1) := by decide +kernel
theorem dL_law_329 : decode cL_law 329 = .ok (.aload_n 0, 1) := by decide +kernel
theorem dL_law_330 : decode cL_law 330 = .ok (.iload 4, 2) := by decide +kernel
theorem dL_law_332 : decode cL_law 332 = .ok (.iconst 1, 1) := by decide +kernel
theorem dL_law_333 : decode cL_law 333 = .ok (.iadd, 1) := by decide +kernel
theorem dL_law_334 : decode cL_law 334 = .ok (.iaload, 1) := by decide +kernel
theorem dL_law_335 : decode cL_law 335 = .ok (.invokevirtual 68, 3) := by decide +kernel
theorem dL_law_338 : decode cL_law 338 = .ok (.if_icmp .eq 501, 3) := by decide +kernel
theorem dL_law_341 : decode cL_law 341 = .ok (.iconst 0, 1) := by decide +kernel
theorem dL_law_342 : decode cL_law 342 = .ok (.ireturn, 1) := by decide +kernel
theorem dL_law_343 : decode cL_law 343 = .ok (.aload_n 1, 1) := by decide +kernel
theorem dL_law_344 : decode cL_law 344 = .ok (.aload_n 0, 1) := by decide +kernel
theorem dL_law_345 : decode cL_law 345 = .ok (.iload 4, 2) := by decide +kernel
theorem dL_law_347 : decode cL_law 347 = .ok (.iconst 1, 1) := by decide +kernel
theorem dL_law_348 : decode cL_law 348 = .ok (.iadd, 1) := by decide +kernel
theorem dL_law_349 : decode cL_law 349 = .ok (.iaload, 1) := by decide +kernel
theorem dL_law_350 : decode cL_law 350 = .ok (.aload_n 0, 1) := by decide +kernel
theorem dL_law_351 : decode cL_law 351 = .ok (.iload 4, 2) := by decide +kernel
theorem dL_law_353 : decode cL_law 353 = .ok (.iconst 2, 1) := by decide +kernel
theorem dL_law_354 : decode cL_law 354 = .ok (.iadd, 1) := by decide +kernel
theorem dL_law_355 : decode cL_law 355 = .ok (.iaload, 1) := by decide +kernel
theorem dL_law_356 : decode cL_law 356 = .ok (.aload_n 0, 1) := by decide +kernel
theorem dL_law_357 : decode cL_law 357 = .ok (.iload 4, 2) := by decide +kernel
theorem dL_law_359 : decode cL_law 359 = .ok (.iconst 3, 1) := by decide +kernel
theorem dL_law_360 : decode cL_law 360 = .ok (.iadd, 1) := by decide +kernel
theorem dL_law_361 : decode cL_law 361 = .ok (.iaload, 1) := by decide +kernel
theorem dL_law_362 : decode cL_law 362 = .ok (.aload_n 3, 1) := by decide +kernel
theorem dL_law_363 : decode cL_law 363 = .ok (.invokestatic 69, 3) := by decide +kernel
theorem dL_law_366 : decode cL_law 366 = .ok (.istore 5, 2) := by decide +kernel
theorem dL_law_368 : decode cL_law 368 = .ok (.aload_n 2, 1) := by decide +kernel
theorem dL_law_369 : decode cL_law 369 = .ok (.aload_n 0, 1) := by decide +kernel
theorem dL_law_370 : decode cL_law 370 = .ok (.iload 4, 2) := by decide +kernel
theorem dL_law_372 : decode cL_law 372 = .ok (.iconst 1, 1) := by decide +kernel
theorem dL_law_373 : decode cL_law 373 = .ok (.iadd, 1) := by decide +kernel
theorem dL_law_374 : decode cL_law 374 = .ok (.iaload, 1) := by decide +kernel
theorem dL_law_375 : decode cL_law 375 = .ok (.aload_n 0, 1) := by decide +kernel
theorem dL_law_376 : decode cL_law 376 = .ok (.iload 4, 2) := by decide +kernel
theorem dL_law_378 : decode cL_law 378 = .ok (.iconst 2, 1) := by decide +kernel
theorem dL_law_379 : decode cL_law 379 = .ok (.iadd, 1) := by decide +kernel
theorem dL_law_380 : decode cL_law 380 = .ok (.iaload, 1) := by decide +kernel
theorem dL_law_381 : decode cL_law 381 = .ok (.aload_n 0, 1) := by decide +kernel
theorem dL_law_382 : decode cL_law 382 = .ok (.iload 4, 2) := by decide +kernel
theorem dL_law_384 : decode cL_law 384 = .ok (.iconst 3, 1) := by decide +kernel
theorem dL_law_385 : decode cL_law 385 = .ok (.iadd, 1) := by decide +kernel
theorem dL_law_386 : decode cL_law 386 = .ok (.iaload, 1) := by decide +kernel
theorem dL_law_387 : decode cL_law 387 = .ok (.invokevirtual 72, 3) := by decide +kernel
theorem dL_law_390 : decode cL_law 390 = .ok (.istore 6, 2) := by decide +kernel
theorem dL_law_392 : decode cL_law 392 = .ok (.aload_n 2, 1) := by decide +kernel
theorem dL_law_393 : decode cL_law 393 = .ok (.invokevirtual 54, 3) := by decide +kernel
theorem dL_law_396 : decode cL_law 396 = .ok (.iload 5, 2) := by decide +kernel
theorem dL_law_398 : decode cL_law 398 = .ok (.if_icmp .eq 5, 3) := by decide +kernel
theorem dL_law_401 : decode cL_law 401 = .ok (.iconst 0, 1) := by decide +kernel
theorem dL_law_402 : decode cL_law 402 = .ok (.ireturn, 1) := by decide +kernel
theorem dL_law_403 : decode cL_law 403 = .ok (.iload 5, 2) := by decide +kernel
theorem dL_law_405 : decode cL_law 405 = .ok (.ifCond .ne 15, 3) := by decide +kernel
theorem dL_law_408 : decode cL_law 408 = .ok (.aload_n 3, 1) := by decide +kernel
theorem dL_law_409 : decode cL_law 409 = .ok (.iconst 0, 1) := by decide +kernel
theorem dL_law_410 : decode cL_law 410 = .ok (.laload, 1) := by decide +kernel
theorem dL_law_411 : decode cL_law 411 = .ok (.iload 6, 2) := by decide +kernel
theorem dL_law_413 : decode cL_law 413 = .ok (.i2l, 1) := by decide +kernel
theorem dL_law_414 : decode cL_law 414 = .ok (.lcmp, 1) := by decide +kernel
theorem dL_law_415 : decode cL_law 415 = .ok (.ifCond .eq 5, 3) := by decide +kernel
theorem dL_law_418 : decode cL_law 418 = .ok (.iconst 0, 1) := by decide +kernel
theorem dL_law_419 : decode cL_law 419 = .ok (.ireturn, 1) := by decide +kernel
theorem dL_law_420 : decode cL_law 420 = .ok (.goto 419, 3) := by decide +kernel
theorem dL_law_423 : decode cL_law 423 = .ok (.aload_n 1, 1) := by decide +kernel
theorem dL_law_424 : decode cL_law 424 = .ok (.aload_n 0, 1) := by decide +kernel
theorem dL_law_425 : decode cL_law 425 = .ok (.iload 4, 2) := by decide +kernel
theorem dL_law_427 : decode cL_law 427 = .ok (.iconst 1, 1) := by decide +kernel
theorem dL_law_428 : decode cL_law 428 = .ok (.iadd, 1) := by decide +kernel
theorem dL_law_429 : decode cL_law 429 = .ok (.iaload, 1) := by decide +kernel
theorem dL_law_430 : decode cL_law 430 = .ok (.aload_n 0, 1) := by decide +kernel
theorem dL_law_431 : decode cL_law 431 = .ok (.iload 4, 2) := by decide +kernel
theorem dL_law_433 : decode cL_law 433 = .ok (.iconst 2, 1) := by decide +kernel
theorem dL_law_434 : decode cL_law 434 = .ok (.iadd, 1) := by decide +kernel
theorem dL_law_435 : decode cL_law 435 = .ok (.iaload, 1) := by decide +kernel
theorem dL_law_436 : decode cL_law 436 = .ok (.invokevirtual 73, 3) := by decide +kernel
theorem dL_law_439 : decode cL_law 439 = .ok (.aload_n 2, 1) := by decide +kernel
theorem dL_law_440 : decode cL_law 440 = .ok (.aload_n 0, 1) := by decide +kernel
theorem dL_law_441 : decode cL_law 441 = .ok (.iload 4, 2) := by decide +kernel
theorem dL_law_443 : decode cL_law 443 = .ok (.iconst 1, 1) := by decide +kernel
theorem dL_law_444 : decode cL_law 444 = .ok (.iadd, 1) := by decide +kernel
theorem dL_law_445 : decode cL_law 445 = .ok (.iaload, 1) := by decide +kernel
theorem dL_law_446 : decode cL_law 446 = .ok (.aload_n 0, 1) := by decide +kernel
theorem dL_law_447 : decode cL_law 447 = .ok (.iload 4, 2) := by decide +kernel
theorem dL_law_449 : decode cL_law 449 = .ok (.iconst 2, 1) := by decide +kernel
theorem dL_law_450 : decode cL_law 450 = .ok (.iadd, 1) := by decide +kernel
theorem dL_law_451 : decode cL_law 451 = .ok (.iaload, 1) := by decide +kernel
theorem dL_law_452 : decode cL_law 452 = .ok (.invokevirtual 76, 3) := by decide +kernel
theorem dL_law_455 : decode cL_law 455 = .ok (.if_icmp .eq 384, 3) := by decide +kernel
theorem dL_law_458 : decode cL_law 458 = .ok (.iconst 0, 1) := by decide +kernel
theorem dL_law_459 : decode cL_law 459 = .ok (.ireturn, 1) := by decide +kernel
theorem dL_law_460 : decode cL_law 460 = .ok (.aload_n 1, 1) := by decide +kernel
theorem dL_law_461 : decode cL_law 461 = .ok (.aload_n 0, 1) := by decide +kernel
end
section
theorem dL_law_462 : decode cL_law 462 = .ok (.iload 4, 2) := by decide +kernel
theorem dL_law_464 : decode cL_law 464 = .ok (.iconst 1, 1) := by decide +kernel
theorem dL_law_465 : decode cL_law 465 = .ok (.iadd, 1) := by decide +kernel
theorem dL_law_466 : decode cL_law 466 = .ok (.iaload, 1) := by decide +kernel
theorem dL_law_467 : decode cL_law 467 = .ok (.aload_n 3, 1) := by decide +kernel
theorem dL_law_468 : decode cL_law 468 = .ok (.invokestatic 77, 3) := by decide +kernel
theorem dL_law_471 : decode cL_law 471 = .ok (.istore 5, 2) := by decide +kernel
theorem dL_law_473 : decode cL_law 473 = .ok (.aload_n 2, 1) := by decide +kernel
theorem dL_law_474 : decode cL_law 474 = .ok (.aload_n 0, 1) := by decide +kernel
theorem dL_law_475 : decode cL_law 475 = .ok (.iload 4, 2) := by decide +kernel
theorem dL_law_477 : decode cL_law 477 = .ok (.iconst 1, 1) := by decide +kernel
theorem dL_law_478 : decode cL_law 478 = .ok (.iadd, 1) := by decide +kernel
theorem dL_law_479 : decode cL_law 479 = .ok (.iaload, 1) := by decide +kernel
theorem dL_law_480 : decode cL_law 480 = .ok (.invokevirtual 80, 3) := by decide +kernel
theorem dL_law_483 : decode cL_law 483 = .ok (.istore 6, 2) := by decide +kernel
theorem dL_law_485 : decode cL_law 485 = .ok (.aload_n 2, 1) := by decide +kernel
theorem dL_law_486 : decode cL_law 486 = .ok (.invokevirtual 54, 3) := by decide +kernel
theorem dL_law_489 : decode cL_law 489 = .ok (.iload 5, 2) := by decide +kernel
theorem dL_law_491 : decode cL_law 491 = .ok (.if_icmp .eq 5, 3) := by decide +kernel
theorem dL_law_494 : decode cL_law 494 = .ok (.iconst 0, 1) := by decide +kernel
theorem dL_law_495 : decode cL_law 495 = .ok (.ireturn, 1) := by decide +kernel
theorem dL_law_496 : decode cL_law 496 = .ok (.iload 5, 2) := by decide +kernel
theorem dL_law_498 : decode cL_law 498 = .ok (.ifCond .ne 15, 3) := by decide +kernel
theorem dL_law_501 : decode cL_law 501 = .ok (.aload_n 3, 1) := by decide +kernel
theorem dL_law_502 : decode cL_law 502 = .ok (.iconst 0, 1) := by decide +kernel
theorem dL_law_503 : decode cL_law 503 = .ok (.laload, 1) := by decide +kernel
theorem dL_law_504 : decode cL_law 504 = .ok (.iload 6, 2) := by decide +kernel
theorem dL_law_506 : decode cL_law 506 = .ok (.i2l, 1) := by decide +kernel
theorem dL_law_507 : decode cL_law 507 = .ok (.lcmp, 1) := by decide +kernel
theorem dL_law_508 : decode cL_law 508 = .ok (.ifCond .eq 5, 3) := by decide +kernel
theorem dL_law_511 : decode cL_law 511 = .ok (.iconst 0, 1) := by decide +kernel
theorem dL_law_512 : decode cL_law 512 = .ok (.ireturn, 1) := by decide +kernel
theorem dL_law_513 : decode cL_law 513 = .ok (.goto 326, 3) := by decide +kernel
theorem dL_law_516 : decode cL_law 516 = .ok (.aload_n 1, 1) := by decide +kernel
theorem dL_law_517 : decode cL_law 517 = .ok (.aload_n 0, 1) := by decide +kernel
theorem dL_law_518 : decode cL_law 518 = .ok (.iload 4, 2) := by decide +kernel
theorem dL_law_520 : decode cL_law 520 = .ok (.iconst 1, 1) := by decide +kernel
theorem dL_law_521 : decode cL_law 521 = .ok (.iadd, 1) := by decide +kernel
theorem dL_law_522 : decode cL_law 522 = .ok (.iaload, 1) := by decide +kernel
theorem dL_law_523 : decode cL_law 523 = .ok (.aload_n 3, 1) := by decide +kernel
theorem dL_law_524 : decode cL_law 524 = .ok (.invokestatic 81, 3) := by decide +kernel
theorem dL_law_527 : decode cL_law 527 = .ok (.istore 5, 2) := by decide +kernel
theorem dL_law_529 : decode cL_law 529 = .ok (.aload_n 2, 1) := by decide +kernel
theorem dL_law_530 : decode cL_law 530 = .ok (.aload_n 0, 1) := by decide +kernel
theorem dL_law_531 : decode cL_law 531 = .ok (.iload 4, 2) := by decide +kernel
theorem dL_law_533 : decode cL_law 533 = .ok (.iconst 1, 1) := by decide +kernel
theorem dL_law_534 : decode cL_law 534 = .ok (.iadd, 1) := by decide +kernel
theorem dL_law_535 : decode cL_law 535 = .ok (.iaload, 1) := by decide +kernel
theorem dL_law_536 : decode cL_law 536 = .ok (.invokevirtual 83, 3) := by decide +kernel
theorem dL_law_539 : decode cL_law 539 = .ok (.istore 6, 2) := by decide +kernel
theorem dL_law_541 : decode cL_law 541 = .ok (.aload_n 2, 1) := by decide +kernel
theorem dL_law_542 : decode cL_law 542 = .ok (.invokevirtual 54, 3) := by decide +kernel
theorem dL_law_545 : decode cL_law 545 = .ok (.iload 5, 2) := by decide +kernel
theorem dL_law_547 : decode cL_law 547 = .ok (.if_icmp .eq 5, 3) := by decide +kernel
theorem dL_law_550 : decode cL_law 550 = .ok (.iconst 0, 1) := by decide +kernel
theorem dL_law_551 : decode cL_law 551 = .ok (.ireturn, 1) := by decide +kernel
theorem dL_law_552 : decode cL_law 552 = .ok (.iload 5, 2) := by decide +kernel
theorem dL_law_554 : decode cL_law 554 = .ok (.ifCond .ne 15, 3) := by decide +kernel
theorem dL_law_557 : decode cL_law 557 = .ok (.aload_n 3, 1) := by decide +kernel
theorem dL_law_558 : decode cL_law 558 = .ok (.iconst 0, 1) := by decide +kernel
theorem dL_law_559 : decode cL_law 559 = .ok (.laload, 1) := by decide +kernel
theorem dL_law_560 : decode cL_law 560 = .ok (.iload 6, 2) := by decide +kernel
theorem dL_law_562 : decode cL_law 562 = .ok (.i2l, 1) := by decide +kernel
theorem dL_law_563 : decode cL_law 563 = .ok (.lcmp, 1) := by decide +kernel
theorem dL_law_564 : decode cL_law 564 = .ok (.ifCond .eq 5, 3) := by decide +kernel
theorem dL_law_567 : decode cL_law 567 = .ok (.iconst 0, 1) := by decide +kernel
theorem dL_law_568 : decode cL_law 568 = .ok (.ireturn, 1) := by decide +kernel
theorem dL_law_569 : decode cL_law 569 = .ok (.goto 270, 3) := by decide +kernel
theorem dL_law_572 : decode cL_law 572 = .ok (.aload_n 1, 1) := by decide +kernel
theorem dL_law_573 : decode cL_law 573 = .ok (.aload_n 0, 1) := by decide +kernel
theorem dL_law_574 : decode cL_law 574 = .ok (.iload 4, 2) := by decide +kernel
theorem dL_law_576 : decode cL_law 576 = .ok (.iconst 1, 1) := by decide +kernel
theorem dL_law_577 : decode cL_law 577 = .ok (.iadd, 1) := by decide +kernel
theorem dL_law_578 : decode cL_law 578 = .ok (.iaload, 1) := by decide +kernel
theorem dL_law_579 : decode cL_law 579 = .ok (.aload_n 0, 1) := by decide +kernel
theorem dL_law_580 : decode cL_law 580 = .ok (.iload 4, 2) := by decide +kernel
theorem dL_law_582 : decode cL_law 582 = .ok (.iconst 2, 1) := by decide +kernel
theorem dL_law_583 : decode cL_law 583 = .ok (.iadd, 1) := by decide +kernel
theorem dL_law_584 : decode cL_law 584 = .ok (.iaload, 1) := by decide +kernel
theorem dL_law_585 : decode cL_law 585 = .ok (.aload_n 3, 1) := by decide +kernel
theorem dL_law_586 : decode cL_law 586 = .ok (.invokestatic 84, 3) := by decide +kernel
theorem dL_law_589 : decode cL_law 589 = .ok (.istore 5, 2) := by decide +kernel
theorem dL_law_591 : decode cL_law 591 = .ok (.aload_n 2, 1) := by decide +kernel
theorem dL_law_592 : decode cL_law 592 = .ok (.aload_n 0, 1) := by decide +kernel
theorem dL_law_593 : decode cL_law 593 = .ok (.iload 4, 2) := by decide +kernel
theorem dL_law_595 : decode cL_law 595 = .ok (.iconst 1, 1) := by decide +kernel
theorem dL_law_596 : decode cL_law 596 = .ok (.iadd, 1) := by decide +kernel
theorem dL_law_597 : decode cL_law 597 = .ok (.iaload, 1) := by decide +kernel
theorem dL_law_598 : decode cL_law 598 = .ok (.aload_n 0, 1) := by decide +kernel
theorem dL_law_599 : decode cL_law 599 = .ok (.iload 4, 2) := by decide +kernel
theorem dL_law_601 : decode cL_law 601 = .ok (.iconst 2, 1) := by decide +kernel
theorem dL_law_602 : decode cL_law 602 = .ok (.iadd, 1) := by decide +kernel
theorem dL_law_603 : decode cL_law 603 = .ok (.iaload, 1) := by decide +kernel
theorem dL_law_604 : decode cL_law 604 = .ok (.invokevirtual 86, 3) := by decide +kernel
theorem dL_law_607 : decode cL_law 607 = .ok (.istore 6, 2) := by decide +kernel
theorem dL_law_609 : decode cL_law 609 = .ok (.aload_n 2, 1) := by decide +kernel
theorem dL_law_610 : decode cL_law 610 = .ok (.invokevirtual 54, 3) := by decide +kernel
theorem dL_law_613 : decode cL_law 613 = .ok (.iload 5, 2) := by decide +kernel
theorem dL_law_615 : decode cL_law 615 = .ok (.if_icmp .eq 5, 3) := by decide +kernel
theorem dL_law_618 : decode cL_law 618 = .ok (.iconst 0, 1) := by decide +kernel
theorem dL_law_619 : decode cL_law 619 = .ok (.ireturn, 1) := by decide +kernel
theorem dL_law_620 : decode cL_law 620 = .ok (.iload 5, 2) := by decide +kernel
theorem dL_law_622 : decode cL_law 622 = .ok (.ifCond .ne 15, 3) := by decide +kernel
theorem dL_law_625 : decode cL_law 625 = .ok (.aload_n 3, 1) := by decide +kernel
theorem dL_law_626 : decode cL_law 626 = .ok (.iconst 0, 1) := by decide +kernel
theorem dL_law_627 : decode cL_law 627 = .ok (.laload, 1) := by decide +kernel
theorem dL_law_628 : decode cL_law 628 = .ok (.iload 6, 2) := by decide +kernel
theorem dL_law_630 : decode cL_law 630 = .ok (.i2l, 1) := by decide +kernel
theorem dL_law_631 : decode cL_law 631 = .ok (.lcmp, 1) := by decide +kernel
theorem dL_law_632 : decode cL_law 632 = .ok (.ifCond .eq 5, 3) := by decide +kernel
theorem dL_law_635 : decode cL_law 635 = .ok (.iconst 0, 1) := by decide +kernel
theorem dL_law_636 : decode cL_law 636 = .ok (.ireturn, 1) := by decide +kernel
theorem dL_law_637 : decode cL_law 637 = .ok (.goto 202, 3) := by decide +kernel
theorem dL_law_640 : decode cL_law 640 = .ok (.aload_n 1, 1) := by decide +kernel
theorem dL_law_641 : decode cL_law 641 = .ok (.aload_n 0, 1) := by decide +kernel
theorem dL_law_642 : decode cL_law 642 = .ok (.iload 4, 2) := by decide +kernel
theorem dL_law_644 : decode cL_law 644 = .ok (.iconst 1, 1) := by decide +kernel
theorem dL_law_645 : decode cL_law 645 = .ok (.iadd, 1) := by decide +kernel
theorem dL_law_646 : decode cL_law 646 = .ok (.iaload, 1) := by decide +kernel
theorem dL_law_647 : decode cL_law 647 = .ok (.invokevirtual 87, 3) := by decide +kernel
theorem dL_law_650 : decode cL_law 650 = .ok (.aload_n 2, 1) := by decide +kernel
theorem dL_law_651 : decode cL_law 651 = .ok (.aload_n 0, 1) := by decide +kernel
theorem dL_law_652 : decode cL_law 652 = .ok (.iload 4, 2) := by decide +kernel
theorem dL_law_654 : decode cL_law 654 = .ok (.iconst 1, 1) := by decide +kernel
theorem dL_law_655 : decode cL_law 655 = .ok (.iadd, 1) := by decide +kernel
theorem dL_law_656 : decode cL_law 656 = .ok (.iaload, 1) := by decide +kernel
theorem dL_law_657 : decode cL_law 657 = .ok (.invokevirtual 90, 3) := by decide +kernel
theorem dL_law_660 : decode cL_law 660 = .ok (.if_icmp .eq 179, 3) := by decide +kernel
theorem dL_law_663 : decode cL_law 663 = .ok (.iconst 0, 1) := by decide +kernel
theorem dL_law_664 : decode cL_law 664 = .ok (.ireturn, 1) := by decide +kernel
end
section
theorem dL_law_665 : decode cL_law 665 = .ok (.aload_n 1, 1) := by decide +kernel
theorem dL_law_666 : decode cL_law 666 = .ok (.aload_n 0, 1) := by decide +kernel
theorem dL_law_667 : decode cL_law 667 = .ok (.iload 4, 2) := by decide +kernel
theorem dL_law_669 : decode cL_law 669 = .ok (.iconst 1, 1) := by decide +kernel
theorem dL_law_670 : decode cL_law 670 = .ok (.iadd, 1) := by decide +kernel
theorem dL_law_671 : decode cL_law 671 = .ok (.iaload, 1) := by decide +kernel
theorem dL_law_672 : decode cL_law 672 = .ok (.invokevirtual 91, 3) := by decide +kernel
theorem dL_law_675 : decode cL_law 675 = .ok (.aload_n 2, 1) := by decide +kernel
theorem dL_law_676 : decode cL_law 676 = .ok (.aload_n 0, 1) := by decide +kernel
theorem dL_law_677 : decode cL_law 677 = .ok (.iload 4, 2) := by decide +kernel
theorem dL_law_679 : decode cL_law 679 = .ok (.iconst 1, 1) := by decide +kernel
theorem dL_law_680 : decode cL_law 680 = .ok (.iadd, 1) := by decide +kernel
theorem dL_law_681 : decode cL_law 681 = .ok (.iaload, 1) := by decide +kernel
theorem dL_law_682 : decode cL_law 682 = .ok (.invokevirtual 94, 3) := by decide +kernel
theorem dL_law_685 : decode cL_law 685 = .ok (.if_icmp .eq 154, 3) := by decide +kernel
theorem dL_law_688 : decode cL_law 688 = .ok (.iconst 0, 1) := by decide +kernel
theorem dL_law_689 : decode cL_law 689 = .ok (.ireturn, 1) := by decide +kernel
theorem dL_law_690 : decode cL_law 690 = .ok (.aload_n 1, 1) := by decide +kernel
theorem dL_law_691 : decode cL_law 691 = .ok (.aload_n 0, 1) := by decide +kernel
theorem dL_law_692 : decode cL_law 692 = .ok (.iload 4, 2) := by decide +kernel
theorem dL_law_694 : decode cL_law 694 = .ok (.iconst 1, 1) := by decide +kernel
theorem dL_law_695 : decode cL_law 695 = .ok (.iadd, 1) := by decide +kernel
theorem dL_law_696 : decode cL_law 696 = .ok (.iaload, 1) := by decide +kernel
theorem dL_law_697 : decode cL_law 697 = .ok (.aload_n 0, 1) := by decide +kernel
theorem dL_law_698 : decode cL_law 698 = .ok (.iload 4, 2) := by decide +kernel
theorem dL_law_700 : decode cL_law 700 = .ok (.iconst 2, 1) := by decide +kernel
theorem dL_law_701 : decode cL_law 701 = .ok (.iadd, 1) := by decide +kernel
theorem dL_law_702 : decode cL_law 702 = .ok (.iaload, 1) := by decide +kernel
theorem dL_law_703 : decode cL_law 703 = .ok (.invokevirtual 95, 3) := by decide +kernel
theorem dL_law_706 : decode cL_law 706 = .ok (.aload_n 2, 1) := by decide +kernel
theorem dL_law_707 : decode cL_law 707 = .ok (.aload_n 0, 1) := by decide +kernel
theorem dL_law_708 : decode cL_law 708 = .ok (.iload 4, 2) := by decide +kernel
theorem dL_law_710 : decode cL_law 710 = .ok (.iconst 1, 1) := by decide +kernel
theorem dL_law_711 : decode cL_law 711 = .ok (.iadd, 1) := by decide +kernel
theorem dL_law_712 : decode cL_law 712 = .ok (.iaload, 1) := by decide +kernel
theorem dL_law_713 : decode cL_law 713 = .ok (.aload_n 0, 1) := by decide +kernel
theorem dL_law_714 : decode cL_law 714 = .ok (.iload 4, 2) := by decide +kernel
theorem dL_law_716 : decode cL_law 716 = .ok (.iconst 2, 1) := by decide +kernel
theorem dL_law_717 : decode cL_law 717 = .ok (.iadd, 1) := by decide +kernel
theorem dL_law_718 : decode cL_law 718 = .ok (.iaload, 1) := by decide +kernel
theorem dL_law_719 : decode cL_law 719 = .ok (.invokevirtual 98, 3) := by decide +kernel
theorem dL_law_722 : decode cL_law 722 = .ok (.if_icmp .eq 117, 3) := by decide +kernel
theorem dL_law_725 : decode cL_law 725 = .ok (.iconst 0, 1) := by decide +kernel
theorem dL_law_726 : decode cL_law 726 = .ok (.ireturn, 1) := by decide +kernel
theorem dL_law_727 : decode cL_law 727 = .ok (.aload_n 1, 1) := by decide +kernel
theorem dL_law_728 : decode cL_law 728 = .ok (.aload_n 0, 1) := by decide +kernel
theorem dL_law_729 : decode cL_law 729 = .ok (.iload 4, 2) := by decide +kernel
theorem dL_law_731 : decode cL_law 731 = .ok (.iconst 1, 1) := by decide +kernel
theorem dL_law_732 : decode cL_law 732 = .ok (.iadd, 1) := by decide +kernel
theorem dL_law_733 : decode cL_law 733 = .ok (.iaload, 1) := by decide +kernel
theorem dL_law_734 : decode cL_law 734 = .ok (.invokevirtual 99, 3) := by decide +kernel
theorem dL_law_737 : decode cL_law 737 = .ok (.aload_n 2, 1) := by decide +kernel
theorem dL_law_738 : decode cL_law 738 = .ok (.aload_n 0, 1) := by decide +kernel
theorem dL_law_739 : decode cL_law 739 = .ok (.iload 4, 2) := by decide +kernel
theorem dL_law_741 : decode cL_law 741 = .ok (.iconst 1, 1) := by decide +kernel
theorem dL_law_742 : decode cL_law 742 = .ok (.iadd, 1) := by decide +kernel
theorem dL_law_743 : decode cL_law 743 = .ok (.iaload, 1) := by decide +kernel
theorem dL_law_744 : decode cL_law 744 = .ok (.invokevirtual 102, 3) := by decide +kernel
theorem dL_law_747 : decode cL_law 747 = .ok (.if_icmp .eq 92, 3) := by decide +kernel
theorem dL_law_750 : decode cL_law 750 = .ok (.iconst 0, 1) := by decide +kernel
theorem dL_law_751 : decode cL_law 751 = .ok (.ireturn, 1) := by decide +kernel
theorem dL_law_752 : decode cL_law 752 = .ok (.aload_n 1, 1) := by decide +kernel
theorem dL_law_753 : decode cL_law 753 = .ok (.aload_n 0, 1) := by decide +kernel
theorem dL_law_754 : decode cL_law 754 = .ok (.iload 4, 2) := by decide +kernel
theorem dL_law_756 : decode cL_law 756 = .ok (.iconst 1, 1) := by decide +kernel
theorem dL_law_757 : decode cL_law 757 = .ok (.iadd, 1) := by decide +kernel
theorem dL_law_758 : decode cL_law 758 = .ok (.iaload, 1) := by decide +kernel
theorem dL_law_759 : decode cL_law 759 = .ok (.aload_n 0, 1) := by decide +kernel
theorem dL_law_760 : decode cL_law 760 = .ok (.iload 4, 2) := by decide +kernel
theorem dL_law_762 : decode cL_law 762 = .ok (.iconst 2, 1) := by decide +kernel
theorem dL_law_763 : decode cL_law 763 = .ok (.iadd, 1) := by decide +kernel
theorem dL_law_764 : decode cL_law 764 = .ok (.iaload, 1) := by decide +kernel
theorem dL_law_765 : decode cL_law 765 = .ok (.invokevirtual 103, 3) := by decide +kernel
theorem dL_law_768 : decode cL_law 768 = .ok (.aload_n 2, 1) := by decide +kernel
theorem dL_law_769 : decode cL_law 769 = .ok (.aload_n 0, 1) := by decide +kernel
theorem dL_law_770 : decode cL_law 770 = .ok (.iload 4, 2) := by decide +kernel
theorem dL_law_772 : decode cL_law 772 = .ok (.iconst 1, 1) := by decide +kernel
theorem dL_law_773 : decode cL_law 773 = .ok (.iadd, 1) := by decide +kernel
theorem dL_law_774 : decode cL_law 774 = .ok (.iaload, 1) := by decide +kernel
theorem dL_law_775 : decode cL_law 775 = .ok (.aload_n 0, 1) := by decide +kernel
theorem dL_law_776 : decode cL_law 776 = .ok (.iload 4, 2) := by decide +kernel
theorem dL_law_778 : decode cL_law 778 = .ok (.iconst 2, 1) := by decide +kernel
theorem dL_law_779 : decode cL_law 779 = .ok (.iadd, 1) := by decide +kernel
theorem dL_law_780 : decode cL_law 780 = .ok (.iaload, 1) := by decide +kernel
theorem dL_law_781 : decode cL_law 781 = .ok (.invokevirtual 106, 3) := by decide +kernel
theorem dL_law_784 : decode cL_law 784 = .ok (.if_icmp .eq 55, 3) := by decide +kernel
theorem dL_law_787 : decode cL_law 787 = .ok (.iconst 0, 1) := by decide +kernel
theorem dL_law_788 : decode cL_law 788 = .ok (.ireturn, 1) := by decide +kernel
theorem dL_law_789 : decode cL_law 789 = .ok (.aload_n 1, 1) := by decide +kernel
theorem dL_law_790 : decode cL_law 790 = .ok (.aload_n 0, 1) := by decide +kernel
theorem dL_law_791 : decode cL_law 791 = .ok (.iload 4, 2) := by decide +kernel
theorem dL_law_793 : decode cL_law 793 = .ok (.iconst 1, 1) := by decide +kernel
theorem dL_law_794 : decode cL_law 794 = .ok (.iadd, 1) := by decide +kernel
theorem dL_law_795 : decode cL_law 795 = .ok (.iaload, 1) := by decide +kernel
theorem dL_law_796 : decode cL_law 796 = .ok (.invokevirtual 107, 3) := by decide +kernel
theorem dL_law_799 : decode cL_law 799 = .ok (.aload_n 2, 1) := by decide +kernel
theorem dL_law_800 : decode cL_law 800 = .ok (.aload_n 0, 1) := by decide +kernel
theorem dL_law_801 : decode cL_law 801 = .ok (.iload 4, 2) := by decide +kernel
theorem dL_law_803 : decode cL_law 803 = .ok (.iconst 1, 1) := by decide +kernel
theorem dL_law_804 : decode cL_law 804 = .ok (.iadd, 1) := by decide +kernel
theorem dL_law_805 : decode cL_law 805 = .ok (.iaload, 1) := by decide +kernel
theorem dL_law_806 : decode cL_law 806 = .ok (.invokevirtual 110, 3) := by decide +kernel
theorem dL_law_809 : decode cL_law 809 = .ok (.if_icmp .eq 30, 3) := by decide +kernel
theorem dL_law_812 : decode cL_law 812 = .ok (.iconst 0, 1) := by decide +kernel
theorem dL_law_813 : decode cL_law 813 = .ok (.ireturn, 1) := by decide +kernel
theorem dL_law_814 : decode cL_law 814 = .ok (.aload_n 1, 1) := by decide +kernel
theorem dL_law_815 : decode cL_law 815 = .ok (.aload_n 0, 1) := by decide +kernel
theorem dL_law_816 : decode cL_law 816 = .ok (.iload 4, 2) := by decide +kernel
theorem dL_law_818 : decode cL_law 818 = .ok (.iconst 1, 1) := by decide +kernel
theorem dL_law_819 : decode cL_law 819 = .ok (.iadd, 1) := by decide +kernel
theorem dL_law_820 : decode cL_law 820 = .ok (.iaload, 1) := by decide +kernel
theorem dL_law_821 : decode cL_law 821 = .ok (.invokevirtual 111, 3) := by decide +kernel
theorem dL_law_824 : decode cL_law 824 = .ok (.aload_n 2, 1) := by decide +kernel
theorem dL_law_825 : decode cL_law 825 = .ok (.aload_n 0, 1) := by decide +kernel
theorem dL_law_826 : decode cL_law 826 = .ok (.iload 4, 2) := by decide +kernel
theorem dL_law_828 : decode cL_law 828 = .ok (.iconst 1, 1) := by decide +kernel
theorem dL_law_829 : decode cL_law 829 = .ok (.iadd, 1) := by decide +kernel
theorem dL_law_830 : decode cL_law 830 = .ok (.iaload, 1) := by decide +kernel
theorem dL_law_831 : decode cL_law 831 = .ok (.invokevirtual 114, 3) := by decide +kernel
theorem dL_law_834 : decode cL_law 834 = .ok (.if_icmp .eq 5, 3) := by decide +kernel
theorem dL_law_837 : decode cL_law 837 = .ok (.iconst 0, 1) := by decide +kernel
theorem dL_law_838 : decode cL_law 838 = .ok (.ireturn, 1) := by decide +kernel
theorem dL_law_839 : decode cL_law 839 = .ok (.iinc 4 4, 3) := by decide +kernel
theorem dL_law_842 : decode cL_law 842 = .ok (.goto (-819), 3) := by decide +kernel
theorem dL_law_845 : decode cL_law 845 = .ok (.iconst 1, 1) := by decide +kernel
theorem dL_law_846 : decode cL_law 846 = .ok (.ireturn, 1) := by decide +kernel
end
section
def TX0 : u_T := fun k => match k with
  | 0 => ("BakeHouse$Book", "rows", "[I", true)
  | 1 => ("BakeHouse$Book", "next", "I", false)
  | 2 => ("BakeHouse$Book", "kept", "I", false)
  | 3 => ("BakeHouse$Book", "begun", "I", false)
  | 4 => ("BakeHouse$Book", "fallen", "I", false)
  | 5 => ("BakeHouse$Book", "missed", "I", false)
  | _ => ("BakeHouse$Book", "byZero", "I", false)
def tyX0 : Nat → FieldType := fun k => match k with
  | 0 => .array .int
  | 1 => .int
  | 2 => .int
  | 3 => .int
  | 4 => .int
  | 5 => .int
  | _ => .int
theorem nmX0 : ∀ a, a < 7 → ∀ b, b < 7 → a ≠ b → (TX0 a).2.1 ≠ (TX0 b).2.1 := by decide +kernel
theorem tyX0_ok : ∀ j, j < 7 → parseFieldDescriptor (TX0 j).2.2.1 = some (tyX0 j) := by decide +kernel
def TX2 : u_T := fun k => match k with
  | 0 => ("BakeHouse$Dough", "book", "LBakeHouse$Book;", true)
  | 1 => ("BakeHouse$Dough", "number", "I", true)
  | 2 => ("BakeHouse$Dough", "kind", "I", true)
  | 3 => ("BakeHouse$Dough", "mass", "I", true)
  | 4 => ("BakeHouse$Dough", "air", "I", false)
  | 5 => ("BakeHouse$Dough", "folds", "I", false)
  | 6 => ("BakeHouse$Dough", "acid", "I", false)
  | _ => ("BakeHouse$Dough", "crust", "I", false)
def tyX2 : Nat → FieldType := fun k => match k with
  | 0 => .object "BakeHouse$Book"
  | 1 => .int
  | 2 => .int
  | 3 => .int
  | 4 => .int
  | 5 => .int
  | 6 => .int
  | _ => .int
theorem nmX2 : ∀ a, a < 8 → ∀ b, b < 8 → a ≠ b → (TX2 a).2.1 ≠ (TX2 b).2.1 := by decide +kernel
theorem tyX2_ok : ∀ j, j < 8 → parseFieldDescriptor (TX2 j).2.2.1 = some (tyX2 j) := by decide +kernel
def TX7 : u_T := fun k => match k with
  | 0 => ("BakeHouse$Shelf", "row", "[I", true)
  | _ => ("BakeHouse$Shelf", "size", "I", false)
def tyX7 : Nat → FieldType := fun k => match k with
  | 0 => .array .int
  | _ => .int
theorem nmX7 : ∀ a, a < 2 → ∀ b, b < 2 → a ≠ b → (TX7 a).2.1 ≠ (TX7 b).2.1 := by decide +kernel
theorem tyX7_ok : ∀ j, j < 2 → parseFieldDescriptor (TX7 j).2.2.1 = some (tyX7 j) := by decide +kernel
def TX10 : u_T := fun k => match k with
  | 0 => ("BakeHouse", "book", "LBakeHouse$Book;", true)
  | 1 => ("BakeHouse", "oven", "[LBakeHouse$Shelf;", true)
  | 2 => ("BakeHouse", "loaves", "[LBakeHouse$Dough;", true)
  | _ => ("BakeHouse", "loafCount", "I", false)
def tyX10 : Nat → FieldType := fun k => match k with
  | 0 => .object "BakeHouse$Book"
  | 1 => .array (.object "BakeHouse$Shelf")
  | 2 => .array (.object "BakeHouse$Dough")
  | _ => .int
theorem nmX10 : ∀ a, a < 4 → ∀ b, b < 4 → a ≠ b → (TX10 a).2.1 ≠ (TX10 b).2.1 := by decide +kernel
theorem tyX10_ok : ∀ j, j < 4 → parseFieldDescriptor (TX10 j).2.2.1 = some (tyX10 j) := by decide +kernel
def TX11 : u_T := fun k => match k with
  | 0 => ("BakeHouseModel", "thrown", "I", false)
  | 1 => ("BakeHouseModel", "many", "I", false)
  | 2 => ("BakeHouseModel", "kind", "[I", true)
  | 3 => ("BakeHouseModel", "mass", "[I", true)
  | 4 => ("BakeHouseModel", "air", "[I", true)
  | 5 => ("BakeHouseModel", "folds", "[I", true)
  | 6 => ("BakeHouseModel", "acid", "[I", true)
  | 7 => ("BakeHouseModel", "crust", "[I", true)
  | 8 => ("BakeHouseModel", "places", "[I", true)
  | 9 => ("BakeHouseModel", "lies", "[I", true)
  | 10 => ("BakeHouseModel", "book", "[I", true)
  | 11 => ("BakeHouseModel", "began", "I", false)
  | 12 => ("BakeHouseModel", "fallen", "I", false)
  | 13 => ("BakeHouseModel", "missed", "I", false)
  | 14 => ("BakeHouseModel", "divided", "I", false)
  | 15 => ("BakeHouseModel", "isFallen", "Z", false)
  | _ => ("BakeHouseModel", "isDivided", "Z", false)
def tyX11 : Nat → FieldType := fun k => match k with
  | 0 => .int
  | 1 => .int
  | 2 => .array .int
  | 3 => .array .int
  | 4 => .array .int
  | 5 => .array .int
  | 6 => .array .int
  | 7 => .array .int
  | 8 => .array .int
  | 9 => .array .int
  | 10 => .array .int
  | 11 => .int
  | 12 => .int
  | 13 => .int
  | 14 => .int
  | 15 => .boolean
  | _ => .boolean
theorem nmX11 : ∀ a, a < 17 → ∀ b, b < 17 → a ≠ b → (TX11 a).2.1 ≠ (TX11 b).2.1 := by decide +kernel
theorem tyX11_ok : ∀ j, j < 17 → parseFieldDescriptor (TX11 j).2.2.1 = some (tyX11 j) := by decide +kernel
def kR : Nat → String := fun k => match k with
  | 0 => "BakeHouse$Dough"
  | 1 => "BakeHouse$Leavened"
  | 2 => "BakeHouse$Rye"
  | 3 => "BakeHouse$Sweet"
  | 4 => "BakeHouse$Sour"
  | 5 => "BakeHouse$Brioche"
  | 6 => "BakeHouse$Flat"
  | _ => "BakeHouse$Levain"
def cls : List vw_C := [("BakeHouse$Book", TX0, 7), ("BakeHouse$Shelf", TX7, 2), ("BakeHouse", TX10, 4), ("BakeHouseModel", TX11, 17), (kR 0, TX2, 8), (kR 1, TX2, 8), (kR 2, TX2, 8), (kR 3, TX2, 8), (kR 4, TX2, 8), (kR 5, TX2, 8), (kR 6, TX2, 8), (kR 7, TX2, 8)]
theorem inX0 : ∀ x ∈ u_ws "BakeHouse$Book" TX0 7, x ∈ tg := by decide +kernel
theorem inX7 : ∀ x ∈ u_ws "BakeHouse$Shelf" TX7 2, x ∈ tg := by decide +kernel
theorem inX10 : ∀ x ∈ u_ws "BakeHouse" TX10 4, x ∈ tg := by decide +kernel
theorem inX11 : ∀ x ∈ u_ws "BakeHouseModel" TX11 17, x ∈ tg := by decide +kernel
theorem inD_all : ∀ k, k < 8 → ∀ x ∈ u_ws (kR k) TX2 8, x ∈ tg := by decide +kernel
theorem cls_d {k : Nat} (h : k < 8) : cls[4 + k]? = some (kR k, TX2, 8) := by
  rcases (show k = 0 ∨ k = 1 ∨ k = 2 ∨ k = 3 ∨ k = 4 ∨ k = 5 ∨ k = 6 ∨ k = 7 by omega) with rfl | rfl | rfl | rfl | rfl | rfl | rfl | rfl <;> rfl

/-! the state that class and reference share: how many loaves, their kinds, their fields (by the slots of Dough), their addresses; the shelves' sizes and rows; the ring of the book, how many rules began; the counters (by the slots of Book) -/
abbrev St : Type := Nat × (Nat → Nat) × (Nat → Nat → Int32) × (Nat → Nat) × (Nat → Int32) × (Nat → Nat → Int32) × (Nat → Int32) × Nat × (Nat → Int32)
def s_n (σ : St) : Nat := σ.1
def s_k (σ : St) : Nat → Nat := σ.2.1
def s_F (σ : St) : Nat → Nat → Int32 := σ.2.2.1
def s_a (σ : St) : Nat → Nat := σ.2.2.2.1
def s_z (σ : St) : Nat → Int32 := σ.2.2.2.2.1
def s_r (σ : St) : Nat → Nat → Int32 := σ.2.2.2.2.2.1
def s_g (σ : St) : Nat → Int32 := σ.2.2.2.2.2.2.1
def s_N (σ : St) : Nat := σ.2.2.2.2.2.2.2.1
def s_c (σ : St) : Nat → Int32 := σ.2.2.2.2.2.2.2.2
def sBeg (a k : Int32) (σ : St) : St := (s_n σ, s_k σ, s_F σ, s_a σ, s_z σ, s_r σ, upd (s_g σ) (s_N σ % 100) (10 * a + k), s_N σ + 1, s_c σ)
def sF (f i : Nat) (v : Int32) (σ : St) : St := (s_n σ, s_k σ, (fun f' => if f' = f then upd (s_F σ f) i v else s_F σ f'), s_a σ, s_z σ, s_r σ, s_g σ, s_N σ, s_c σ)
def sC (j : Nat) (v : Int32) (σ : St) : St := (s_n σ, s_k σ, s_F σ, s_a σ, s_z σ, s_r σ, s_g σ, s_N σ, upd (s_c σ) j v)
def sZ (k : Nat) (v : Int32) (σ : St) : St := (s_n σ, s_k σ, s_F σ, s_a σ, upd (s_z σ) k v, s_r σ, s_g σ, s_N σ, s_c σ)
def sR (k j : Nat) (v : Int32) (σ : St) : St := (s_n σ, s_k σ, s_F σ, s_a σ, s_z σ, (fun k' => if k' = k then upd (s_r σ k) j v else s_r σ k'), s_g σ, s_N σ, s_c σ)
/-- a new loaf at the address q -/
def sNew (k : Nat) (ma : Int32) (q : Nat) (σ : St) : St := (s_n σ + 1, va_up (s_k σ) (s_n σ) k, (fun f' => if f' = 3 then upd (s_F σ 3) (s_n σ) ma else s_F σ f'), va_up (s_a σ) (s_n σ) q, s_z σ, s_r σ, s_g σ, s_N σ, s_c σ)
def nx (N : Nat) : Int32 := if N = 0 then 0 else nI ((N - 1) % 100 + 1)
def kp (N : Nat) : Int32 := nI (min N 100)
abbrev arI (c : ClassId) (n : Nat) (f : Nat → Int32) : va_E := .inl (c, n, .inl f)
abbrev arR (c : ClassId) (n : Nat) (f : Nat → Option Nat) : va_E := .inl (c, n, .inr (.inr (.inr (.inr f))))
def kCell (bk : Nat) (σ : St) (i : Nat) : va_E := .inr (4 + s_k σ i, [.ref bk, .int (nI i), .int (nI (s_k σ i)), .int (s_F σ 3 i), .int (s_F σ 4 i), .int (s_F σ 5 i), .int (s_F σ 6 i), .int (s_F σ 7 i)])
def kLv (bk : Nat) (σ : St) : va_W := (List.range (s_n σ)).map (fun i => (s_a σ i, kCell bk σ i))
def kFix (G : Nat → Nat) (Q : Nat → ClassId) (σ : St) : va_W := [
  (G 0, .inr (2, [.ref (G 1), .ref (G 3), .ref (G 4), .int (nI (s_n σ))])),
  (G 1, .inr (0, [.ref (G 2), .int (nx (s_N σ)), .int (kp (s_N σ)), .int (nI (s_N σ)), .int (s_c σ 4), .int (s_c σ 5), .int (s_c σ 6)])),
  (G 2, arI (Q 0) 100 (s_g σ)),
  (G 3, arR (Q 1) 4 (fun k => if k < 4 then some (G (5 + k)) else none)),
  (G 4, arR (Q 2) 20 (fun i => if i < s_n σ then some (s_a σ i) else none)),
  (G 5, .inr (1, [.ref (G 9), .int (s_z σ 0)])),
  (G 6, .inr (1, [.ref (G 10), .int (s_z σ 1)])),
  (G 7, .inr (1, [.ref (G 11), .int (s_z σ 2)])),
  (G 8, .inr (1, [.ref (G 12), .int (s_z σ 3)])),
  (G 9, arI (Q 0) 8 (s_r σ 0)),
  (G 10, arI (Q 0) 8 (s_r σ 1)),
  (G 11, arI (Q 0) 8 (s_r σ 2)),
  (G 12, arI (Q 0) 8 (s_r σ 3))]
/-- the class' world -/
def kw (G : Nat → Nat) (Q : Nat → ClassId) (σ : St) : va_W := kFix G Q σ ++ kLv (G 1) σ
/-- the reference's world; beside the state: thrown, isFallen, isDivided -/
abbrev Sm : Type := St × Int32 × Int32 × Int32
def mw (M : Nat → Nat) (Q : Nat → ClassId) (τ : Sm) : va_W := [
  (M 0, .inr (3, [.int τ.2.1, .int (nI (s_n τ.1)), .ref (M 1), .ref (M 2), .ref (M 3), .ref (M 4), .ref (M 5), .ref (M 6), .ref (M 7), .ref (M 8), .ref (M 9), .int (nI (s_N τ.1)), .int (s_c τ.1 4), .int (s_c τ.1 5), .int (s_c τ.1 6), .int τ.2.2.1, .int τ.2.2.2])),
  (M 1, arI (Q 0) 20 (fun i => nI (s_k τ.1 i))),
  (M 2, arI (Q 0) 20 (s_F τ.1 3)),
  (M 3, arI (Q 0) 20 (s_F τ.1 4)),
  (M 4, arI (Q 0) 20 (s_F τ.1 5)),
  (M 5, arI (Q 0) 20 (s_F τ.1 6)),
  (M 6, arI (Q 0) 20 (s_F τ.1 7)),
  (M 7, arI (Q 0) 4 (s_z τ.1)),
  (M 8, arI (Q 0) 32 (fun j => s_r τ.1 (j / 8) (j % 8))),
  (M 9, arI (Q 0) 100 (s_g τ.1))]
def tyl (Q : Nat → ClassId) : List (ClassId × FieldType) := [(Q 0, .int), (Q 1, .object "BakeHouse$Shelf"), (Q 2, .object "BakeHouse$Dough"), (Q 3, .long)]
theorem kw_d {G : Nat → Nat} {Q : Nat → ClassId} (σ : St) {i : Nat} (h : i < s_n σ) : (kw G Q σ)[13 + i]? = some (s_a σ i, kCell (G 1) σ i) := by
  unfold kw
  rw [List.getElem?_append_right (by show 13 ≤ 13 + i; omega)]
  show (kLv (G 1) σ)[13 + i - 13]? = _
  rw [Nat.add_sub_cancel_left]
  simp [kLv, h]
theorem kLv_set {bk : Nat} {σ σ' : St} {i : Nat} {ce : va_E} (hn : s_n σ' = s_n σ) (hi : s_a σ' i = s_a σ i ∧ kCell bk σ' i = ce) (ho : ∀ j, j ≠ i → s_a σ' j = s_a σ j ∧ kCell bk σ' j = kCell bk σ j) : (kLv bk σ).set i (s_a σ i, ce) = kLv bk σ' := by
  apply List.ext_getElem?
  intro j
  by_cases hj : j = i
  · subst hj
    by_cases hl : j < s_n σ
    · simp [kLv, hl, hn, hi.1, hi.2]
    · simp [kLv, hl, hn]
  · rw [List.getElem?_set_ne (fun h => hj h.symm)]
    by_cases hl : j < s_n σ
    · simp [kLv, hl, hn, (ho j hj).1, (ho j hj).2]
    · simp [kLv, hl, hn]
theorem kw_set {G : Nat → Nat} {Q : Nat → ClassId} {σ σ' : St} {i : Nat} {ce : va_E} (hf : kFix G Q σ' = kFix G Q σ) (hn : s_n σ' = s_n σ) (hi : s_a σ' i = s_a σ i ∧ kCell (G 1) σ' i = ce) (ho : ∀ j, j ≠ i → s_a σ' j = s_a σ j ∧ kCell (G 1) σ' j = kCell (G 1) σ j) : (kw G Q σ).set (13 + i) (s_a σ i, ce) = kw G Q σ' := by
  unfold kw
  have h := List.set_append (s := kFix G Q σ) (t := kLv (G 1) σ) (i := 13 + i) (x := (s_a σ i, ce))
  rw [if_neg (by show ¬ 13 + i < 13; omega), show 13 + i - (kFix G Q σ).length = i from Nat.add_sub_cancel_left 13 i, kLv_set hn hi ho] at h
  rw [hf]
  exact h
theorem kCell_o {bk f i j : Nat} {v : Int32} {σ : St} (h : j ≠ i) : kCell bk (sF f i v σ) j = kCell bk σ j := by
  have e : ∀ g, s_F (sF f i v σ) g j = s_F σ g j := by
    intro g
    show (if g = f then upd (s_F σ f) i v else s_F σ g) j = _
    by_cases hg : g = f
    · subst hg; simp [upd, h]
    · simp [hg]
  have e1 : s_k (sF f i v σ) j = s_k σ j := rfl
  simp only [kCell, e, e1]
theorem kw_sF {G : Nat → Nat} {Q : Nat → ClassId} {σ : St} {i f : Nat} {v : Int32} (hf : f = 4 ∨ f = 5 ∨ f = 6 ∨ f = 7) : (kw G Q σ).set (13 + i) (s_a σ i, .inr (4 + s_k σ i, [.ref (G 1), .int (nI i), .int (nI (s_k σ i)), .int (s_F σ 3 i), .int (s_F σ 4 i), .int (s_F σ 5 i), .int (s_F σ 6 i), .int (s_F σ 7 i)].set f (.int v))) = kw G Q (sF f i v σ) := by
  refine kw_set rfl rfl ⟨rfl, ?_⟩ (fun j hj => ⟨rfl, kCell_o hj⟩)
  rcases hf with rfl | rfl | rfl | rfl <;> simp [kCell, sF, s_F, s_k, upd]
theorem kw_s {G : Nat → Nat} {Q : Nat → ClassId} (σ : St) {k : Nat} (h : k < 4) : (kw G Q σ)[5 + k]? = some (G (5 + k), .inr (1, [.ref (G (9 + k)), .int (s_z σ k)])) := by
  rcases (show k = 0 ∨ k = 1 ∨ k = 2 ∨ k = 3 by omega) with rfl | rfl | rfl | rfl <;> rfl
theorem kw_row {G : Nat → Nat} {Q : Nat → ClassId} (σ : St) {k : Nat} (h : k < 4) : (kw G Q σ)[9 + k]? = some (G (9 + k), arI (Q 0) 8 (s_r σ k)) := by
  rcases (show k = 0 ∨ k = 1 ∨ k = 2 ∨ k = 3 by omega) with rfl | rfl | rfl | rfl <;> rfl
theorem kw_sZ {G : Nat → Nat} {Q : Nat → ClassId} {σ : St} {k : Nat} {v : Int32} (h : k < 4) : (kw G Q σ).set (5 + k) (G (5 + k), .inr (1, [.ref (G (9 + k)), .int (s_z σ k)].set 1 (.int v))) = kw G Q (sZ k v σ) := by
  rcases (show k = 0 ∨ k = 1 ∨ k = 2 ∨ k = 3 by omega) with rfl | rfl | rfl | rfl <;> rfl
theorem kw_sR {G : Nat → Nat} {Q : Nat → ClassId} {σ : St} {k j : Nat} {v : Int32} (h : k < 4) : (kw G Q σ).set (9 + k) (G (9 + k), arI (Q 0) 8 (upd (s_r σ k) j v)) = kw G Q (sR k j v σ) := by
  rcases (show k = 0 ∨ k = 1 ∨ k = 2 ∨ k = 3 by omega) with rfl | rfl | rfl | rfl <;> rfl
end
section
set_option maxRecDepth 100000 in
theorem tw_0 : (Jvm.Cond.initialized "BakeHouseLaw") ∈ tg := tgT 0 rfl rfl
set_option maxRecDepth 100000 in
theorem tw_1 : (Jvm.Cond.initialized "BakeHouse") ∈ tg := tgT 1 rfl rfl
set_option maxRecDepth 100000 in
theorem tw_2 : (Jvm.Cond.initialized "BakeHouse$Book") ∈ tg := tgT 2 rfl rfl
set_option maxRecDepth 100000 in
theorem tw_3 : (Jvm.Cond.initialized "BakeHouse$Shelf") ∈ tg := tgT 3 rfl rfl
set_option maxRecDepth 100000 in
theorem tw_4 : (Jvm.Cond.initialized "BakeHouseModel") ∈ tg := tgT 4 rfl rfl
set_option maxRecDepth 100000 in
theorem tw_5 : (Jvm.Cond.initialized "BakeHouse$Dough") ∈ tg := tgT 5 rfl rfl
set_option maxRecDepth 100000 in
theorem tw_6 : (Jvm.Cond.initialized "BakeHouse$Leavened") ∈ tg := tgT 6 rfl rfl
set_option maxRecDepth 100000 in
theorem tw_7 : (Jvm.Cond.initialized "BakeHouse$Rye") ∈ tg := tgT 7 rfl rfl
set_option maxRecDepth 100000 in
theorem tw_8 : (Jvm.Cond.initialized "BakeHouse$Sweet") ∈ tg := tgT 8 rfl rfl
set_option maxRecDepth 100000 in
theorem tw_9 : (Jvm.Cond.initialized "BakeHouse$Sour") ∈ tg := tgT 9 rfl rfl
set_option maxRecDepth 100000 in
theorem tw_10 : (Jvm.Cond.initialized "BakeHouse$Brioche") ∈ tg := tgT 10 rfl rfl
set_option maxRecDepth 100000 in
theorem tw_11 : (Jvm.Cond.initialized "BakeHouse$Flat") ∈ tg := tgT 11 rfl rfl
set_option maxRecDepth 100000 in
theorem tw_12 : (Jvm.Cond.initialized "BakeHouse$Levain") ∈ tg := tgT 12 rfl rfl
set_option maxRecDepth 100000 in
theorem tw_13 : (Jvm.Cond.initialized "java/lang/Throwable") ∈ tg := tgT 13 rfl rfl
set_option maxRecDepth 100000 in
theorem tw_14 : (Jvm.Cond.initialized "java/lang/Exception") ∈ tg := tgT 14 rfl rfl
set_option maxRecDepth 100000 in
theorem tw_15 : (Jvm.Cond.initialized "java/lang/RuntimeException") ∈ tg := tgT 15 rfl rfl
set_option maxRecDepth 100000 in
theorem tw_16 : (Jvm.Cond.initialized "java/lang/NegativeArraySizeException") ∈ tg := tgT 16 rfl rfl
set_option maxRecDepth 100000 in
theorem tw_17 : (Jvm.Cond.initialized "java/lang/String") ∈ tg := tgT 17 rfl rfl
set_option maxRecDepth 100000 in
theorem tw_18 : (Jvm.Cond.initialized "java/lang/Math") ∈ tg := tgT 18 rfl rfl
set_option maxRecDepth 100000 in
theorem tw_19 : (Jvm.Cond.initialized "java/lang/IllegalStateException") ∈ tg := tgT 19 rfl rfl
set_option maxRecDepth 100000 in
theorem tw_20 : (Jvm.Cond.initialized "java/lang/NullPointerException") ∈ tg := tgT 20 rfl rfl
set_option maxRecDepth 100000 in
theorem tw_21 : (Jvm.Cond.initialized "java/lang/IndexOutOfBoundsException") ∈ tg := tgT 21 rfl rfl
set_option maxRecDepth 100000 in
theorem tw_22 : (Jvm.Cond.initialized "java/lang/ArrayIndexOutOfBoundsException") ∈ tg := tgT 22 rfl rfl
set_option maxRecDepth 100000 in
theorem tw_23 : (Jvm.Cond.initialized "java/lang/ArithmeticException") ∈ tg := tgT 23 rfl rfl
set_option maxRecDepth 100000 in
theorem tw_24 : (Jvm.Cond.classLink "BakeHouseLaw" (8 : Nat) "BakeHouse") ∈ tg := tgT 24 rfl rfl
set_option maxRecDepth 100000 in
theorem tw_25 : (Jvm.Cond.instantiable "BakeHouse" (4 : Nat)) ∈ tg := tgT 25 rfl rfl
set_option maxRecDepth 100000 in
theorem tw_26 : (Jvm.Cond.methodLink "BakeHouseLaw" (40 : Nat) ({ cls := "BakeHouse", name := "<init>", desc := "()V" } : Jvm.MethodName)) ∈ tg := tgT 26 rfl rfl
set_option maxRecDepth 100000 in
theorem tw_27 : (Jvm.Cond.instanceMethod ({ cls := "BakeHouse", name := "<init>", desc := "()V" } : Jvm.MethodName)) ∈ tg := tgT 27 rfl rfl
set_option maxRecDepth 100000 in
theorem tw_28 : (Jvm.Cond.code ({ cls := "BakeHouse", name := "<init>", desc := "()V" } : Jvm.MethodName) prog_1_method_1_code (2 : Nat) (Option.none : Option Jvm.ClassFile.FieldType)) ∈ tg := tgT 28 rfl rfl
set_option maxRecDepth 100000 in
theorem tw_29 : (Jvm.Cond.methodLink "BakeHouse" (1 : Nat) ({ cls := "java/lang/Object", name := "<init>", desc := "()V" } : Jvm.MethodName)) ∈ tg := tgT 29 rfl rfl
set_option maxRecDepth 100000 in
theorem tw_30 : (Jvm.Cond.instanceMethod ({ cls := "java/lang/Object", name := "<init>", desc := "()V" } : Jvm.MethodName)) ∈ tg := tgT 30 rfl rfl
set_option maxRecDepth 100000 in
theorem tw_31 : (Jvm.Cond.code ({ cls := "java/lang/Object", name := "<init>", desc := "()V" } : Jvm.MethodName) object_method_1_code (1 : Nat) (Option.none : Option Jvm.ClassFile.FieldType)) ∈ tg := tgT 31 rfl rfl
set_option maxRecDepth 100000 in
theorem tw_32 : (Jvm.Cond.classLink "BakeHouse" (7 : Nat) "BakeHouse$Book") ∈ tg := tgT 32 rfl rfl
set_option maxRecDepth 100000 in
theorem tw_33 : (Jvm.Cond.instantiable "BakeHouse$Book" (7 : Nat)) ∈ tg := tgT 33 rfl rfl
set_option maxRecDepth 100000 in
theorem tw_35 : (Jvm.Cond.instanceMethod ({ cls := "BakeHouse$Book", name := "<init>", desc := "()V" } : Jvm.MethodName)) ∈ tg := tgT 35 rfl rfl
set_option maxRecDepth 100000 in
theorem tw_36 : (Jvm.Cond.code ({ cls := "BakeHouse$Book", name := "<init>", desc := "()V" } : Jvm.MethodName) prog_2_method_1_code (1 : Nat) (Option.none : Option Jvm.ClassFile.FieldType)) ∈ tg := tgT 36 rfl rfl
set_option maxRecDepth 100000 in
theorem tw_37 : (Jvm.Cond.methodLink "BakeHouse$Book" (3 : Nat) ({ cls := "java/lang/Object", name := "<init>", desc := "()V" } : Jvm.MethodName)) ∈ tg := tgT 37 rfl rfl
set_option maxRecDepth 100000 in
theorem tw_38 : (Jvm.Cond.fieldLink "BakeHouse$Book" (9 : Nat) "BakeHouse$Book" "rows" "[I") ∈ tg := tgT 38 rfl rfl
set_option maxRecDepth 100000 in
theorem tw_39 : (Jvm.Cond.fieldLink "BakeHouse$Book" (15 : Nat) "BakeHouse$Book" "next" "I") ∈ tg := tgT 39 rfl rfl
set_option maxRecDepth 100000 in
theorem tw_40 : (Jvm.Cond.fieldLink "BakeHouse$Book" (19 : Nat) "BakeHouse$Book" "kept" "I") ∈ tg := tgT 40 rfl rfl
set_option maxRecDepth 100000 in
theorem tw_41 : (Jvm.Cond.fieldLink "BakeHouse$Book" (22 : Nat) "BakeHouse$Book" "begun" "I") ∈ tg := tgT 41 rfl rfl
set_option maxRecDepth 100000 in
theorem tw_42 : (Jvm.Cond.fieldLink "BakeHouse" (133 : Nat) "BakeHouse$Book" "begun" "I") ∈ tg := tgT 42 rfl rfl
set_option maxRecDepth 100000 in
theorem tw_43 : (Jvm.Cond.fieldLink "BakeHouse$Book" (25 : Nat) "BakeHouse$Book" "fallen" "I") ∈ tg := tgT 43 rfl rfl
set_option maxRecDepth 100000 in
theorem tw_44 : (Jvm.Cond.fieldLink "BakeHouse$Brioche" (29 : Nat) "BakeHouse$Book" "fallen" "I") ∈ tg := tgT 44 rfl rfl
set_option maxRecDepth 100000 in
theorem tw_45 : (Jvm.Cond.fieldLink "BakeHouse" (136 : Nat) "BakeHouse$Book" "fallen" "I") ∈ tg := tgT 45 rfl rfl
set_option maxRecDepth 100000 in
theorem tw_46 : (Jvm.Cond.fieldLink "BakeHouse$Book" (28 : Nat) "BakeHouse$Book" "missed" "I") ∈ tg := tgT 46 rfl rfl
set_option maxRecDepth 100000 in
theorem tw_47 : (Jvm.Cond.fieldLink "BakeHouse$Dough" (55 : Nat) "BakeHouse$Book" "missed" "I") ∈ tg := tgT 47 rfl rfl
set_option maxRecDepth 100000 in
theorem tw_48 : (Jvm.Cond.fieldLink "BakeHouse" (139 : Nat) "BakeHouse$Book" "missed" "I") ∈ tg := tgT 48 rfl rfl
set_option maxRecDepth 100000 in
theorem tw_49 : (Jvm.Cond.fieldLink "BakeHouse$Book" (31 : Nat) "BakeHouse$Book" "byZero" "I") ∈ tg := tgT 49 rfl rfl
set_option maxRecDepth 100000 in
theorem tw_50 : (Jvm.Cond.fieldLink "BakeHouse$Flat" (36 : Nat) "BakeHouse$Book" "byZero" "I") ∈ tg := tgT 50 rfl rfl
set_option maxRecDepth 100000 in
theorem tw_51 : (Jvm.Cond.fieldLink "BakeHouse" (142 : Nat) "BakeHouse$Book" "byZero" "I") ∈ tg := tgT 51 rfl rfl
set_option maxRecDepth 100000 in
theorem tw_52 : (Jvm.Cond.laysFinal "BakeHouse$Book" "BakeHouse$Book" "rows" "[I") ∈ tg := tgT 52 rfl rfl
set_option maxRecDepth 100000 in
theorem tw_53 : (Jvm.Cond.soleField "BakeHouse$Book" "rows") ∈ tg := tgT 53 rfl rfl
set_option maxRecDepth 100000 in
theorem tw_54 : (Jvm.Cond.lays "BakeHouse$Book" "BakeHouse$Book" "next" "I") ∈ tg := tgT 54 rfl rfl
set_option maxRecDepth 100000 in
theorem tw_55 : (Jvm.Cond.soleField "BakeHouse$Book" "next") ∈ tg := tgT 55 rfl rfl
set_option maxRecDepth 100000 in
theorem tw_56 : (Jvm.Cond.lays "BakeHouse$Book" "BakeHouse$Book" "kept" "I") ∈ tg := tgT 56 rfl rfl
set_option maxRecDepth 100000 in
theorem tw_57 : (Jvm.Cond.soleField "BakeHouse$Book" "kept") ∈ tg := tgT 57 rfl rfl
set_option maxRecDepth 100000 in
theorem tw_58 : (Jvm.Cond.lays "BakeHouse$Book" "BakeHouse$Book" "begun" "I") ∈ tg := tgT 58 rfl rfl
set_option maxRecDepth 100000 in
theorem tw_59 : (Jvm.Cond.soleField "BakeHouse$Book" "begun") ∈ tg := tgT 59 rfl rfl
set_option maxRecDepth 100000 in
theorem tw_60 : (Jvm.Cond.lays "BakeHouse$Book" "BakeHouse$Book" "fallen" "I") ∈ tg := tgT 60 rfl rfl
set_option maxRecDepth 100000 in
theorem tw_61 : (Jvm.Cond.soleField "BakeHouse$Book" "fallen") ∈ tg := tgT 61 rfl rfl
set_option maxRecDepth 100000 in
theorem tw_62 : (Jvm.Cond.lays "BakeHouse$Book" "BakeHouse$Book" "missed" "I") ∈ tg := tgT 62 rfl rfl
set_option maxRecDepth 100000 in
theorem tw_63 : (Jvm.Cond.soleField "BakeHouse$Book" "missed") ∈ tg := tgT 63 rfl rfl
set_option maxRecDepth 100000 in
theorem tw_64 : (Jvm.Cond.lays "BakeHouse$Book" "BakeHouse$Book" "byZero" "I") ∈ tg := tgT 64 rfl rfl
set_option maxRecDepth 100000 in
theorem tw_65 : (Jvm.Cond.soleField "BakeHouse$Book" "byZero") ∈ tg := tgT 65 rfl rfl
set_option maxRecDepth 100000 in
theorem tw_66 : (Jvm.Cond.superclass "BakeHouse$Book" "java/lang/Object") ∈ tg := tgT 66 rfl rfl
set_option maxRecDepth 100000 in
theorem tw_67 : (Jvm.Cond.arrayClass Jvm.ClassFile.FieldType.int) ∈ tg := tgT 67 rfl rfl
set_option maxRecDepth 100000 in
theorem tw_68 : (Jvm.Cond.classLink "BakeHouse" (16 : Nat) "BakeHouse$Shelf") ∈ tg := tgT 68 rfl rfl
set_option maxRecDepth 100000 in
theorem tw_70 : (Jvm.Cond.instantiable "BakeHouse$Shelf" (2 : Nat)) ∈ tg := tgT 70 rfl rfl
set_option maxRecDepth 100000 in
theorem tw_72 : (Jvm.Cond.instanceMethod ({ cls := "BakeHouse$Shelf", name := "<init>", desc := "()V" } : Jvm.MethodName)) ∈ tg := tgT 72 rfl rfl
set_option maxRecDepth 100000 in
theorem tw_73 : (Jvm.Cond.code ({ cls := "BakeHouse$Shelf", name := "<init>", desc := "()V" } : Jvm.MethodName) prog_9_method_1_code (1 : Nat) (Option.none : Option Jvm.ClassFile.FieldType)) ∈ tg := tgT 73 rfl rfl
set_option maxRecDepth 100000 in
theorem tw_74 : (Jvm.Cond.methodLink "BakeHouse$Shelf" (3 : Nat) ({ cls := "java/lang/Object", name := "<init>", desc := "()V" } : Jvm.MethodName)) ∈ tg := tgT 74 rfl rfl
set_option maxRecDepth 100000 in
theorem tw_75 : (Jvm.Cond.fieldLink "BakeHouse$Shelf" (9 : Nat) "BakeHouse$Shelf" "row" "[I") ∈ tg := tgT 75 rfl rfl
set_option maxRecDepth 100000 in
theorem tw_76 : (Jvm.Cond.fieldLink "BakeHouse$Shelf" (15 : Nat) "BakeHouse$Shelf" "size" "I") ∈ tg := tgT 76 rfl rfl
set_option maxRecDepth 100000 in
theorem tw_77 : (Jvm.Cond.fieldLink "BakeHouse" (112 : Nat) "BakeHouse$Shelf" "size" "I") ∈ tg := tgT 77 rfl rfl
set_option maxRecDepth 100000 in
theorem tw_78 : (Jvm.Cond.laysFinal "BakeHouse$Shelf" "BakeHouse$Shelf" "row" "[I") ∈ tg := tgT 78 rfl rfl
set_option maxRecDepth 100000 in
theorem tw_79 : (Jvm.Cond.soleField "BakeHouse$Shelf" "row") ∈ tg := tgT 79 rfl rfl
set_option maxRecDepth 100000 in
theorem tw_80 : (Jvm.Cond.lays "BakeHouse$Shelf" "BakeHouse$Shelf" "size" "I") ∈ tg := tgT 80 rfl rfl
set_option maxRecDepth 100000 in
theorem tw_81 : (Jvm.Cond.soleField "BakeHouse$Shelf" "size") ∈ tg := tgT 81 rfl rfl
set_option maxRecDepth 100000 in
theorem tw_82 : (Jvm.Cond.superclass "BakeHouse$Shelf" "java/lang/Object") ∈ tg := tgT 82 rfl rfl
set_option maxRecDepth 100000 in
theorem tw_83 : (Jvm.Cond.classLink "BakeHouse" (23 : Nat) "BakeHouse$Dough") ∈ tg := tgT 83 rfl rfl
set_option maxRecDepth 100000 in
theorem tw_85 : (Jvm.Cond.fieldLink "BakeHouse" (10 : Nat) "BakeHouse" "book" "LBakeHouse$Book;") ∈ tg := tgT 85 rfl rfl
set_option maxRecDepth 100000 in
theorem tw_86 : (Jvm.Cond.fieldLink "BakeHouse" (18 : Nat) "BakeHouse" "oven" "[LBakeHouse$Shelf;") ∈ tg := tgT 86 rfl rfl
set_option maxRecDepth 100000 in
theorem tw_87 : (Jvm.Cond.fieldLink "BakeHouse" (25 : Nat) "BakeHouse" "loaves" "[LBakeHouse$Dough;") ∈ tg := tgT 87 rfl rfl
set_option maxRecDepth 100000 in
theorem tw_88 : (Jvm.Cond.fieldLink "BakeHouse" (29 : Nat) "BakeHouse" "loafCount" "I") ∈ tg := tgT 88 rfl rfl
set_option maxRecDepth 100000 in
theorem tw_89 : (Jvm.Cond.laysFinal "BakeHouse" "BakeHouse" "book" "LBakeHouse$Book;") ∈ tg := tgT 89 rfl rfl
set_option maxRecDepth 100000 in
theorem tw_90 : (Jvm.Cond.soleField "BakeHouse" "book") ∈ tg := tgT 90 rfl rfl
set_option maxRecDepth 100000 in
theorem tw_91 : (Jvm.Cond.laysFinal "BakeHouse" "BakeHouse" "oven" "[LBakeHouse$Shelf;") ∈ tg := tgT 91 rfl rfl
set_option maxRecDepth 100000 in
theorem tw_92 : (Jvm.Cond.soleField "BakeHouse" "oven") ∈ tg := tgT 92 rfl rfl
set_option maxRecDepth 100000 in
theorem tw_93 : (Jvm.Cond.laysFinal "BakeHouse" "BakeHouse" "loaves" "[LBakeHouse$Dough;") ∈ tg := tgT 93 rfl rfl
set_option maxRecDepth 100000 in
theorem tw_94 : (Jvm.Cond.soleField "BakeHouse" "loaves") ∈ tg := tgT 94 rfl rfl
set_option maxRecDepth 100000 in
theorem tw_95 : (Jvm.Cond.lays "BakeHouse" "BakeHouse" "loafCount" "I") ∈ tg := tgT 95 rfl rfl
set_option maxRecDepth 100000 in
theorem tw_96 : (Jvm.Cond.soleField "BakeHouse" "loafCount") ∈ tg := tgT 96 rfl rfl
set_option maxRecDepth 100000 in
theorem tw_97 : (Jvm.Cond.superclass "BakeHouse" "java/lang/Object") ∈ tg := tgT 97 rfl rfl
set_option maxRecDepth 100000 in
theorem tw_98 : (Jvm.Cond.methodLink "BakeHouseLaw" (44 : Nat) ({ cls := "BakeHouse", name := "loaf", desc := "(II)I" } : Jvm.MethodName)) ∈ tg := tgT 98 rfl rfl
set_option maxRecDepth 100000 in
theorem tw_99 : (Jvm.Cond.instanceMethod ({ cls := "BakeHouse", name := "loaf", desc := "(II)I" } : Jvm.MethodName)) ∈ tg := tgT 99 rfl rfl
set_option maxRecDepth 100000 in
theorem tw_100 : (Jvm.Cond.selects "BakeHouse" ({ cls := "BakeHouse", name := "loaf", desc := "(II)I" } : Jvm.MethodName) ({ cls := "BakeHouse", name := "loaf", desc := "(II)I" } : Jvm.MethodName)) ∈ tg := tgT 100 rfl rfl
set_option maxRecDepth 100000 in
theorem tw_101 : (Jvm.Cond.code ({ cls := "BakeHouse", name := "loaf", desc := "(II)I" } : Jvm.MethodName) prog_1_method_2_code (4 : Nat) (Option.some Jvm.ClassFile.FieldType.int)) ∈ tg := tgT 101 rfl rfl
set_option maxRecDepth 100000 in
theorem tw_102 : (Jvm.Cond.methodLink "BakeHouse" (33 : Nat) ({ cls := "BakeHouse", name := "within", desc := "(III)Z" } : Jvm.MethodName)) ∈ tg := tgT 102 rfl rfl
set_option maxRecDepth 100000 in
theorem tw_103 : (Jvm.Cond.static ({ cls := "BakeHouse", name := "within", desc := "(III)Z" } : Jvm.MethodName)) ∈ tg := tgT 103 rfl rfl
set_option maxRecDepth 100000 in
theorem tw_104 : (Jvm.Cond.code ({ cls := "BakeHouse", name := "within", desc := "(III)Z" } : Jvm.MethodName) prog_1_method_19_code (3 : Nat) (Option.some Jvm.ClassFile.FieldType.boolean)) ∈ tg := tgT 104 rfl rfl
set_option maxRecDepth 100000 in
theorem tw_105 : (Jvm.Cond.methodLink "BakeHouse" (37 : Nat) ({ cls := "BakeHouse", name := "knead", desc := "(III)LBakeHouse$Dough;" } : Jvm.MethodName)) ∈ tg := tgT 105 rfl rfl
set_option maxRecDepth 100000 in
theorem tw_107 : (Jvm.Cond.instanceMethod ({ cls := "BakeHouse", name := "knead", desc := "(III)LBakeHouse$Dough;" } : Jvm.MethodName)) ∈ tg := tgT 107 rfl rfl
set_option maxRecDepth 100000 in
theorem tw_108 : (Jvm.Cond.code ({ cls := "BakeHouse", name := "knead", desc := "(III)LBakeHouse$Dough;" } : Jvm.MethodName) prog_1_method_22_code (4 : Nat) (Option.some (Jvm.ClassFile.FieldType.object "BakeHouse$Dough"))) ∈ tg := tgT 108 rfl rfl
set_option maxRecDepth 100000 in
theorem tw_109 : (Jvm.Cond.classLink "BakeHouse" (145 : Nat) "BakeHouse$Leavened") ∈ tg := tgT 109 rfl rfl
set_option maxRecDepth 100000 in
theorem tw_110 : (Jvm.Cond.instantiable "BakeHouse$Leavened" (8 : Nat)) ∈ tg := tgT 110 rfl rfl
set_option maxRecDepth 100000 in
theorem tw_111 : (Jvm.Cond.methodLink "BakeHouse" (147 : Nat) ({ cls := "BakeHouse$Leavened", name := "<init>", desc := "(LBakeHouse$Book;III)V" } : Jvm.MethodName)) ∈ tg := tgT 111 rfl rfl
set_option maxRecDepth 100000 in
theorem tw_112 : (Jvm.Cond.instanceMethod ({ cls := "BakeHouse$Leavened", name := "<init>", desc := "(LBakeHouse$Book;III)V" } : Jvm.MethodName)) ∈ tg := tgT 112 rfl rfl
set_option maxRecDepth 100000 in
theorem tw_113 : (Jvm.Cond.code ({ cls := "BakeHouse$Leavened", name := "<init>", desc := "(LBakeHouse$Book;III)V" } : Jvm.MethodName) prog_6_method_1_code (5 : Nat) (Option.none : Option Jvm.ClassFile.FieldType)) ∈ tg := tgT 113 rfl rfl
set_option maxRecDepth 100000 in
theorem tw_114 : (Jvm.Cond.methodLink "BakeHouse$Leavened" (1 : Nat) ({ cls := "BakeHouse$Dough", name := "<init>", desc := "(LBakeHouse$Book;III)V" } : Jvm.MethodName)) ∈ tg := tgT 114 rfl rfl
set_option maxRecDepth 100000 in
theorem tw_115 : (Jvm.Cond.instanceMethod ({ cls := "BakeHouse$Dough", name := "<init>", desc := "(LBakeHouse$Book;III)V" } : Jvm.MethodName)) ∈ tg := tgT 115 rfl rfl
set_option maxRecDepth 100000 in
theorem tw_116 : (Jvm.Cond.code ({ cls := "BakeHouse$Dough", name := "<init>", desc := "(LBakeHouse$Book;III)V" } : Jvm.MethodName) prog_4_method_1_code (5 : Nat) (Option.none : Option Jvm.ClassFile.FieldType)) ∈ tg := tgT 116 rfl rfl
set_option maxRecDepth 100000 in
theorem tw_117 : (Jvm.Cond.methodLink "BakeHouse$Dough" (3 : Nat) ({ cls := "java/lang/Object", name := "<init>", desc := "()V" } : Jvm.MethodName)) ∈ tg := tgT 117 rfl rfl
set_option maxRecDepth 100000 in
theorem tw_118 : (Jvm.Cond.fieldLink "BakeHouse$Dough" (24 : Nat) "BakeHouse$Dough" "book" "LBakeHouse$Book;") ∈ tg := tgT 118 rfl rfl
set_option maxRecDepth 100000 in
theorem tw_119 : (Jvm.Cond.fieldLink "BakeHouse$Brioche" (9 : Nat) "BakeHouse$Brioche" "book" "LBakeHouse$Book;") ∈ tg := tgT 119 rfl rfl
set_option maxRecDepth 100000 in
theorem tw_120 : (Jvm.Cond.sameField "BakeHouse$Brioche" "BakeHouse$Dough" "book" "LBakeHouse$Book;") ∈ tg := tgT 120 rfl rfl
set_option maxRecDepth 100000 in
theorem tw_121 : (Jvm.Cond.fieldLink "BakeHouse$Levain" (9 : Nat) "BakeHouse$Levain" "book" "LBakeHouse$Book;") ∈ tg := tgT 121 rfl rfl
set_option maxRecDepth 100000 in
theorem tw_122 : (Jvm.Cond.sameField "BakeHouse$Levain" "BakeHouse$Dough" "book" "LBakeHouse$Book;") ∈ tg := tgT 122 rfl rfl
set_option maxRecDepth 100000 in
theorem tw_123 : (Jvm.Cond.fieldLink "BakeHouse$Sour" (9 : Nat) "BakeHouse$Sour" "book" "LBakeHouse$Book;") ∈ tg := tgT 123 rfl rfl
set_option maxRecDepth 100000 in
theorem tw_124 : (Jvm.Cond.sameField "BakeHouse$Sour" "BakeHouse$Dough" "book" "LBakeHouse$Book;") ∈ tg := tgT 124 rfl rfl
set_option maxRecDepth 100000 in
theorem tw_125 : (Jvm.Cond.fieldLink "BakeHouse$Rye" (9 : Nat) "BakeHouse$Rye" "book" "LBakeHouse$Book;") ∈ tg := tgT 125 rfl rfl
set_option maxRecDepth 100000 in
theorem tw_126 : (Jvm.Cond.sameField "BakeHouse$Rye" "BakeHouse$Dough" "book" "LBakeHouse$Book;") ∈ tg := tgT 126 rfl rfl
set_option maxRecDepth 100000 in
theorem tw_127 : (Jvm.Cond.fieldLink "BakeHouse$Sweet" (9 : Nat) "BakeHouse$Sweet" "book" "LBakeHouse$Book;") ∈ tg := tgT 127 rfl rfl
set_option maxRecDepth 100000 in
theorem tw_128 : (Jvm.Cond.sameField "BakeHouse$Sweet" "BakeHouse$Dough" "book" "LBakeHouse$Book;") ∈ tg := tgT 128 rfl rfl
set_option maxRecDepth 100000 in
theorem tw_129 : (Jvm.Cond.fieldLink "BakeHouse$Flat" (9 : Nat) "BakeHouse$Flat" "book" "LBakeHouse$Book;") ∈ tg := tgT 129 rfl rfl
set_option maxRecDepth 100000 in
theorem tw_130 : (Jvm.Cond.sameField "BakeHouse$Flat" "BakeHouse$Dough" "book" "LBakeHouse$Book;") ∈ tg := tgT 130 rfl rfl
set_option maxRecDepth 100000 in
theorem tw_131 : (Jvm.Cond.fieldLink "BakeHouse$Dough" (28 : Nat) "BakeHouse$Dough" "number" "I") ∈ tg := tgT 131 rfl rfl
set_option maxRecDepth 100000 in
theorem tw_132 : (Jvm.Cond.fieldLink "BakeHouse$Dough" (31 : Nat) "BakeHouse$Dough" "kind" "I") ∈ tg := tgT 132 rfl rfl
set_option maxRecDepth 100000 in
theorem tw_133 : (Jvm.Cond.fieldLink "BakeHouse" (115 : Nat) "BakeHouse$Dough" "kind" "I") ∈ tg := tgT 133 rfl rfl
set_option maxRecDepth 100000 in
theorem tw_134 : (Jvm.Cond.fieldLink "BakeHouse$Dough" (34 : Nat) "BakeHouse$Dough" "mass" "I") ∈ tg := tgT 134 rfl rfl
set_option maxRecDepth 100000 in
theorem tw_135 : (Jvm.Cond.fieldLink "BakeHouse" (118 : Nat) "BakeHouse$Dough" "mass" "I") ∈ tg := tgT 135 rfl rfl
set_option maxRecDepth 100000 in
theorem tw_136 : (Jvm.Cond.fieldLink "BakeHouse$Dough" (9 : Nat) "BakeHouse$Dough" "air" "I") ∈ tg := tgT 136 rfl rfl
set_option maxRecDepth 100000 in
theorem tw_137 : (Jvm.Cond.fieldLink "BakeHouse$Brioche" (25 : Nat) "BakeHouse$Brioche" "air" "I") ∈ tg := tgT 137 rfl rfl
set_option maxRecDepth 100000 in
theorem tw_138 : (Jvm.Cond.sameField "BakeHouse$Brioche" "BakeHouse$Dough" "air" "I") ∈ tg := tgT 138 rfl rfl
set_option maxRecDepth 100000 in
theorem tw_139 : (Jvm.Cond.fieldLink "BakeHouse" (121 : Nat) "BakeHouse$Dough" "air" "I") ∈ tg := tgT 139 rfl rfl
set_option maxRecDepth 100000 in
theorem tw_140 : (Jvm.Cond.fieldLink "BakeHouse$Dough" (15 : Nat) "BakeHouse$Dough" "folds" "I") ∈ tg := tgT 140 rfl rfl
set_option maxRecDepth 100000 in
theorem tw_141 : (Jvm.Cond.fieldLink "BakeHouse$Flat" (21 : Nat) "BakeHouse$Flat" "folds" "I") ∈ tg := tgT 141 rfl rfl
set_option maxRecDepth 100000 in
theorem tw_142 : (Jvm.Cond.sameField "BakeHouse$Flat" "BakeHouse$Dough" "folds" "I") ∈ tg := tgT 142 rfl rfl
set_option maxRecDepth 100000 in
theorem tw_143 : (Jvm.Cond.fieldLink "BakeHouse" (74 : Nat) "BakeHouse$Dough" "folds" "I") ∈ tg := tgT 143 rfl rfl
set_option maxRecDepth 100000 in
theorem tw_144 : (Jvm.Cond.fieldLink "BakeHouse$Dough" (18 : Nat) "BakeHouse$Dough" "acid" "I") ∈ tg := tgT 144 rfl rfl
set_option maxRecDepth 100000 in
theorem tw_145 : (Jvm.Cond.fieldLink "BakeHouse$Sour" (21 : Nat) "BakeHouse$Sour" "acid" "I") ∈ tg := tgT 145 rfl rfl
set_option maxRecDepth 100000 in
theorem tw_146 : (Jvm.Cond.sameField "BakeHouse$Sour" "BakeHouse$Dough" "acid" "I") ∈ tg := tgT 146 rfl rfl
set_option maxRecDepth 100000 in
theorem tw_147 : (Jvm.Cond.fieldLink "BakeHouse$Levain" (21 : Nat) "BakeHouse$Levain" "acid" "I") ∈ tg := tgT 147 rfl rfl
set_option maxRecDepth 100000 in
theorem tw_148 : (Jvm.Cond.sameField "BakeHouse$Levain" "BakeHouse$Dough" "acid" "I") ∈ tg := tgT 148 rfl rfl
set_option maxRecDepth 100000 in
theorem tw_149 : (Jvm.Cond.fieldLink "BakeHouse" (124 : Nat) "BakeHouse$Dough" "acid" "I") ∈ tg := tgT 149 rfl rfl
set_option maxRecDepth 100000 in
theorem tw_150 : (Jvm.Cond.fieldLink "BakeHouse$Dough" (21 : Nat) "BakeHouse$Dough" "crust" "I") ∈ tg := tgT 150 rfl rfl
set_option maxRecDepth 100000 in
theorem tw_151 : (Jvm.Cond.fieldLink "BakeHouse$Sweet" (29 : Nat) "BakeHouse$Sweet" "crust" "I") ∈ tg := tgT 151 rfl rfl
set_option maxRecDepth 100000 in
theorem tw_152 : (Jvm.Cond.sameField "BakeHouse$Sweet" "BakeHouse$Dough" "crust" "I") ∈ tg := tgT 152 rfl rfl
set_option maxRecDepth 100000 in
theorem tw_153 : (Jvm.Cond.fieldLink "BakeHouse$Flat" (33 : Nat) "BakeHouse$Flat" "crust" "I") ∈ tg := tgT 153 rfl rfl
set_option maxRecDepth 100000 in
theorem tw_154 : (Jvm.Cond.sameField "BakeHouse$Flat" "BakeHouse$Dough" "crust" "I") ∈ tg := tgT 154 rfl rfl
set_option maxRecDepth 100000 in
theorem tw_155 : (Jvm.Cond.fieldLink "BakeHouse" (127 : Nat) "BakeHouse$Dough" "crust" "I") ∈ tg := tgT 155 rfl rfl
set_option maxRecDepth 100000 in
theorem tw_156 : (Jvm.Cond.laysFinal "BakeHouse$Leavened" "BakeHouse$Dough" "book" "LBakeHouse$Book;") ∈ tg := tgT 156 rfl rfl
set_option maxRecDepth 100000 in
theorem tw_157 : (Jvm.Cond.soleField "BakeHouse$Dough" "book") ∈ tg := tgT 157 rfl rfl
set_option maxRecDepth 100000 in
theorem tw_158 : (Jvm.Cond.laysFinal "BakeHouse$Leavened" "BakeHouse$Dough" "number" "I") ∈ tg := tgT 158 rfl rfl
set_option maxRecDepth 100000 in
theorem tw_159 : (Jvm.Cond.soleField "BakeHouse$Dough" "number") ∈ tg := tgT 159 rfl rfl
set_option maxRecDepth 100000 in
theorem tw_160 : (Jvm.Cond.laysFinal "BakeHouse$Leavened" "BakeHouse$Dough" "kind" "I") ∈ tg := tgT 160 rfl rfl
set_option maxRecDepth 100000 in
theorem tw_161 : (Jvm.Cond.soleField "BakeHouse$Dough" "kind") ∈ tg := tgT 161 rfl rfl
set_option maxRecDepth 100000 in
theorem tw_162 : (Jvm.Cond.laysFinal "BakeHouse$Leavened" "BakeHouse$Dough" "mass" "I") ∈ tg := tgT 162 rfl rfl
set_option maxRecDepth 100000 in
theorem tw_163 : (Jvm.Cond.soleField "BakeHouse$Dough" "mass") ∈ tg := tgT 163 rfl rfl
set_option maxRecDepth 100000 in
theorem tw_164 : (Jvm.Cond.lays "BakeHouse$Leavened" "BakeHouse$Dough" "air" "I") ∈ tg := tgT 164 rfl rfl
set_option maxRecDepth 100000 in
theorem tw_165 : (Jvm.Cond.soleField "BakeHouse$Dough" "air") ∈ tg := tgT 165 rfl rfl
set_option maxRecDepth 100000 in
theorem tw_166 : (Jvm.Cond.lays "BakeHouse$Leavened" "BakeHouse$Dough" "folds" "I") ∈ tg := tgT 166 rfl rfl
set_option maxRecDepth 100000 in
theorem tw_167 : (Jvm.Cond.soleField "BakeHouse$Dough" "folds") ∈ tg := tgT 167 rfl rfl
set_option maxRecDepth 100000 in
theorem tw_168 : (Jvm.Cond.lays "BakeHouse$Leavened" "BakeHouse$Dough" "acid" "I") ∈ tg := tgT 168 rfl rfl
set_option maxRecDepth 100000 in
theorem tw_169 : (Jvm.Cond.soleField "BakeHouse$Dough" "acid") ∈ tg := tgT 169 rfl rfl
set_option maxRecDepth 100000 in
theorem tw_170 : (Jvm.Cond.lays "BakeHouse$Leavened" "BakeHouse$Dough" "crust" "I") ∈ tg := tgT 170 rfl rfl
set_option maxRecDepth 100000 in
theorem tw_171 : (Jvm.Cond.soleField "BakeHouse$Dough" "crust") ∈ tg := tgT 171 rfl rfl
set_option maxRecDepth 100000 in
theorem tw_172 : (Jvm.Cond.superclass "BakeHouse$Leavened" "BakeHouse$Dough") ∈ tg := tgT 172 rfl rfl
set_option maxRecDepth 100000 in
theorem tw_173 : (Jvm.Cond.classLink "BakeHouse" (150 : Nat) "BakeHouse$Rye") ∈ tg := tgT 173 rfl rfl
set_option maxRecDepth 100000 in
theorem tw_174 : (Jvm.Cond.instantiable "BakeHouse$Rye" (8 : Nat)) ∈ tg := tgT 174 rfl rfl
set_option maxRecDepth 100000 in
theorem tw_175 : (Jvm.Cond.methodLink "BakeHouse" (152 : Nat) ({ cls := "BakeHouse$Rye", name := "<init>", desc := "(LBakeHouse$Book;III)V" } : Jvm.MethodName)) ∈ tg := tgT 175 rfl rfl
set_option maxRecDepth 100000 in
theorem tw_176 : (Jvm.Cond.instanceMethod ({ cls := "BakeHouse$Rye", name := "<init>", desc := "(LBakeHouse$Book;III)V" } : Jvm.MethodName)) ∈ tg := tgT 176 rfl rfl
set_option maxRecDepth 100000 in
theorem tw_177 : (Jvm.Cond.code ({ cls := "BakeHouse$Rye", name := "<init>", desc := "(LBakeHouse$Book;III)V" } : Jvm.MethodName) prog_8_method_1_code (5 : Nat) (Option.none : Option Jvm.ClassFile.FieldType)) ∈ tg := tgT 177 rfl rfl
set_option maxRecDepth 100000 in
theorem tw_178 : (Jvm.Cond.methodLink "BakeHouse$Rye" (3 : Nat) ({ cls := "BakeHouse$Leavened", name := "<init>", desc := "(LBakeHouse$Book;III)V" } : Jvm.MethodName)) ∈ tg := tgT 178 rfl rfl
set_option maxRecDepth 100000 in
theorem tw_179 : (Jvm.Cond.laysFinal "BakeHouse$Rye" "BakeHouse$Dough" "book" "LBakeHouse$Book;") ∈ tg := tgT 179 rfl rfl
set_option maxRecDepth 100000 in
theorem tw_180 : (Jvm.Cond.laysFinal "BakeHouse$Rye" "BakeHouse$Dough" "number" "I") ∈ tg := tgT 180 rfl rfl
set_option maxRecDepth 100000 in
theorem tw_181 : (Jvm.Cond.laysFinal "BakeHouse$Rye" "BakeHouse$Dough" "kind" "I") ∈ tg := tgT 181 rfl rfl
set_option maxRecDepth 100000 in
theorem tw_182 : (Jvm.Cond.laysFinal "BakeHouse$Rye" "BakeHouse$Dough" "mass" "I") ∈ tg := tgT 182 rfl rfl
set_option maxRecDepth 100000 in
theorem tw_183 : (Jvm.Cond.lays "BakeHouse$Rye" "BakeHouse$Dough" "air" "I") ∈ tg := tgT 183 rfl rfl
set_option maxRecDepth 100000 in
theorem tw_184 : (Jvm.Cond.lays "BakeHouse$Rye" "BakeHouse$Dough" "folds" "I") ∈ tg := tgT 184 rfl rfl
set_option maxRecDepth 100000 in
theorem tw_185 : (Jvm.Cond.lays "BakeHouse$Rye" "BakeHouse$Dough" "acid" "I") ∈ tg := tgT 185 rfl rfl
set_option maxRecDepth 100000 in
theorem tw_186 : (Jvm.Cond.lays "BakeHouse$Rye" "BakeHouse$Dough" "crust" "I") ∈ tg := tgT 186 rfl rfl
set_option maxRecDepth 100000 in
theorem tw_187 : (Jvm.Cond.superclass "BakeHouse$Rye" "BakeHouse$Leavened") ∈ tg := tgT 187 rfl rfl
set_option maxRecDepth 100000 in
theorem tw_188 : (Jvm.Cond.classLink "BakeHouse" (153 : Nat) "BakeHouse$Sweet") ∈ tg := tgT 188 rfl rfl
set_option maxRecDepth 100000 in
theorem tw_189 : (Jvm.Cond.instantiable "BakeHouse$Sweet" (8 : Nat)) ∈ tg := tgT 189 rfl rfl
set_option maxRecDepth 100000 in
theorem tw_190 : (Jvm.Cond.methodLink "BakeHouse" (155 : Nat) ({ cls := "BakeHouse$Sweet", name := "<init>", desc := "(LBakeHouse$Book;III)V" } : Jvm.MethodName)) ∈ tg := tgT 190 rfl rfl
set_option maxRecDepth 100000 in
theorem tw_191 : (Jvm.Cond.instanceMethod ({ cls := "BakeHouse$Sweet", name := "<init>", desc := "(LBakeHouse$Book;III)V" } : Jvm.MethodName)) ∈ tg := tgT 191 rfl rfl
set_option maxRecDepth 100000 in
theorem tw_192 : (Jvm.Cond.code ({ cls := "BakeHouse$Sweet", name := "<init>", desc := "(LBakeHouse$Book;III)V" } : Jvm.MethodName) prog_11_method_1_code (5 : Nat) (Option.none : Option Jvm.ClassFile.FieldType)) ∈ tg := tgT 192 rfl rfl
set_option maxRecDepth 100000 in
theorem tw_193 : (Jvm.Cond.methodLink "BakeHouse$Sweet" (3 : Nat) ({ cls := "BakeHouse$Leavened", name := "<init>", desc := "(LBakeHouse$Book;III)V" } : Jvm.MethodName)) ∈ tg := tgT 193 rfl rfl
set_option maxRecDepth 100000 in
theorem tw_194 : (Jvm.Cond.laysFinal "BakeHouse$Sweet" "BakeHouse$Dough" "book" "LBakeHouse$Book;") ∈ tg := tgT 194 rfl rfl
set_option maxRecDepth 100000 in
theorem tw_195 : (Jvm.Cond.laysFinal "BakeHouse$Sweet" "BakeHouse$Dough" "number" "I") ∈ tg := tgT 195 rfl rfl
set_option maxRecDepth 100000 in
theorem tw_196 : (Jvm.Cond.laysFinal "BakeHouse$Sweet" "BakeHouse$Dough" "kind" "I") ∈ tg := tgT 196 rfl rfl
set_option maxRecDepth 100000 in
theorem tw_197 : (Jvm.Cond.laysFinal "BakeHouse$Sweet" "BakeHouse$Dough" "mass" "I") ∈ tg := tgT 197 rfl rfl
set_option maxRecDepth 100000 in
theorem tw_198 : (Jvm.Cond.lays "BakeHouse$Sweet" "BakeHouse$Dough" "air" "I") ∈ tg := tgT 198 rfl rfl
set_option maxRecDepth 100000 in
theorem tw_199 : (Jvm.Cond.lays "BakeHouse$Sweet" "BakeHouse$Dough" "folds" "I") ∈ tg := tgT 199 rfl rfl
set_option maxRecDepth 100000 in
theorem tw_200 : (Jvm.Cond.lays "BakeHouse$Sweet" "BakeHouse$Dough" "acid" "I") ∈ tg := tgT 200 rfl rfl
set_option maxRecDepth 100000 in
theorem tw_201 : (Jvm.Cond.lays "BakeHouse$Sweet" "BakeHouse$Dough" "crust" "I") ∈ tg := tgT 201 rfl rfl
set_option maxRecDepth 100000 in
theorem tw_202 : (Jvm.Cond.superclass "BakeHouse$Sweet" "BakeHouse$Leavened") ∈ tg := tgT 202 rfl rfl
set_option maxRecDepth 100000 in
theorem tw_203 : (Jvm.Cond.classLink "BakeHouse" (156 : Nat) "BakeHouse$Sour") ∈ tg := tgT 203 rfl rfl
set_option maxRecDepth 100000 in
theorem tw_204 : (Jvm.Cond.instantiable "BakeHouse$Sour" (8 : Nat)) ∈ tg := tgT 204 rfl rfl
set_option maxRecDepth 100000 in
theorem tw_205 : (Jvm.Cond.methodLink "BakeHouse" (158 : Nat) ({ cls := "BakeHouse$Sour", name := "<init>", desc := "(LBakeHouse$Book;III)V" } : Jvm.MethodName)) ∈ tg := tgT 205 rfl rfl
set_option maxRecDepth 100000 in
theorem tw_206 : (Jvm.Cond.instanceMethod ({ cls := "BakeHouse$Sour", name := "<init>", desc := "(LBakeHouse$Book;III)V" } : Jvm.MethodName)) ∈ tg := tgT 206 rfl rfl
set_option maxRecDepth 100000 in
theorem tw_207 : (Jvm.Cond.code ({ cls := "BakeHouse$Sour", name := "<init>", desc := "(LBakeHouse$Book;III)V" } : Jvm.MethodName) prog_10_method_1_code (5 : Nat) (Option.none : Option Jvm.ClassFile.FieldType)) ∈ tg := tgT 207 rfl rfl
set_option maxRecDepth 100000 in
theorem tw_208 : (Jvm.Cond.methodLink "BakeHouse$Sour" (3 : Nat) ({ cls := "BakeHouse$Rye", name := "<init>", desc := "(LBakeHouse$Book;III)V" } : Jvm.MethodName)) ∈ tg := tgT 208 rfl rfl
set_option maxRecDepth 100000 in
theorem tw_209 : (Jvm.Cond.laysFinal "BakeHouse$Sour" "BakeHouse$Dough" "book" "LBakeHouse$Book;") ∈ tg := tgT 209 rfl rfl
set_option maxRecDepth 100000 in
theorem tw_210 : (Jvm.Cond.laysFinal "BakeHouse$Sour" "BakeHouse$Dough" "number" "I") ∈ tg := tgT 210 rfl rfl
set_option maxRecDepth 100000 in
theorem tw_211 : (Jvm.Cond.laysFinal "BakeHouse$Sour" "BakeHouse$Dough" "kind" "I") ∈ tg := tgT 211 rfl rfl
set_option maxRecDepth 100000 in
theorem tw_212 : (Jvm.Cond.laysFinal "BakeHouse$Sour" "BakeHouse$Dough" "mass" "I") ∈ tg := tgT 212 rfl rfl
set_option maxRecDepth 100000 in
theorem tw_213 : (Jvm.Cond.lays "BakeHouse$Sour" "BakeHouse$Dough" "air" "I") ∈ tg := tgT 213 rfl rfl
set_option maxRecDepth 100000 in
theorem tw_214 : (Jvm.Cond.lays "BakeHouse$Sour" "BakeHouse$Dough" "folds" "I") ∈ tg := tgT 214 rfl rfl
set_option maxRecDepth 100000 in
theorem tw_215 : (Jvm.Cond.lays "BakeHouse$Sour" "BakeHouse$Dough" "acid" "I") ∈ tg := tgT 215 rfl rfl
set_option maxRecDepth 100000 in
theorem tw_216 : (Jvm.Cond.lays "BakeHouse$Sour" "BakeHouse$Dough" "crust" "I") ∈ tg := tgT 216 rfl rfl
set_option maxRecDepth 100000 in
theorem tw_217 : (Jvm.Cond.superclass "BakeHouse$Sour" "BakeHouse$Rye") ∈ tg := tgT 217 rfl rfl
set_option maxRecDepth 100000 in
theorem tw_218 : (Jvm.Cond.classLink "BakeHouse" (159 : Nat) "BakeHouse$Brioche") ∈ tg := tgT 218 rfl rfl
set_option maxRecDepth 100000 in
theorem tw_219 : (Jvm.Cond.instantiable "BakeHouse$Brioche" (8 : Nat)) ∈ tg := tgT 219 rfl rfl
set_option maxRecDepth 100000 in
theorem tw_220 : (Jvm.Cond.methodLink "BakeHouse" (161 : Nat) ({ cls := "BakeHouse$Brioche", name := "<init>", desc := "(LBakeHouse$Book;III)V" } : Jvm.MethodName)) ∈ tg := tgT 220 rfl rfl
set_option maxRecDepth 100000 in
theorem tw_221 : (Jvm.Cond.instanceMethod ({ cls := "BakeHouse$Brioche", name := "<init>", desc := "(LBakeHouse$Book;III)V" } : Jvm.MethodName)) ∈ tg := tgT 221 rfl rfl
set_option maxRecDepth 100000 in
theorem tw_222 : (Jvm.Cond.code ({ cls := "BakeHouse$Brioche", name := "<init>", desc := "(LBakeHouse$Book;III)V" } : Jvm.MethodName) prog_3_method_1_code (5 : Nat) (Option.none : Option Jvm.ClassFile.FieldType)) ∈ tg := tgT 222 rfl rfl
set_option maxRecDepth 100000 in
theorem tw_223 : (Jvm.Cond.methodLink "BakeHouse$Brioche" (3 : Nat) ({ cls := "BakeHouse$Sweet", name := "<init>", desc := "(LBakeHouse$Book;III)V" } : Jvm.MethodName)) ∈ tg := tgT 223 rfl rfl
set_option maxRecDepth 100000 in
theorem tw_224 : (Jvm.Cond.laysFinal "BakeHouse$Brioche" "BakeHouse$Dough" "book" "LBakeHouse$Book;") ∈ tg := tgT 224 rfl rfl
set_option maxRecDepth 100000 in
theorem tw_225 : (Jvm.Cond.laysFinal "BakeHouse$Brioche" "BakeHouse$Dough" "number" "I") ∈ tg := tgT 225 rfl rfl
set_option maxRecDepth 100000 in
theorem tw_226 : (Jvm.Cond.laysFinal "BakeHouse$Brioche" "BakeHouse$Dough" "kind" "I") ∈ tg := tgT 226 rfl rfl
set_option maxRecDepth 100000 in
theorem tw_227 : (Jvm.Cond.laysFinal "BakeHouse$Brioche" "BakeHouse$Dough" "mass" "I") ∈ tg := tgT 227 rfl rfl
set_option maxRecDepth 100000 in
theorem tw_228 : (Jvm.Cond.lays "BakeHouse$Brioche" "BakeHouse$Dough" "air" "I") ∈ tg := tgT 228 rfl rfl
set_option maxRecDepth 100000 in
theorem tw_229 : (Jvm.Cond.lays "BakeHouse$Brioche" "BakeHouse$Dough" "folds" "I") ∈ tg := tgT 229 rfl rfl
set_option maxRecDepth 100000 in
theorem tw_230 : (Jvm.Cond.lays "BakeHouse$Brioche" "BakeHouse$Dough" "acid" "I") ∈ tg := tgT 230 rfl rfl
set_option maxRecDepth 100000 in
theorem tw_231 : (Jvm.Cond.lays "BakeHouse$Brioche" "BakeHouse$Dough" "crust" "I") ∈ tg := tgT 231 rfl rfl
set_option maxRecDepth 100000 in
theorem tw_232 : (Jvm.Cond.superclass "BakeHouse$Brioche" "BakeHouse$Sweet") ∈ tg := tgT 232 rfl rfl
set_option maxRecDepth 100000 in
theorem tw_233 : (Jvm.Cond.classLink "BakeHouse" (162 : Nat) "BakeHouse$Flat") ∈ tg := tgT 233 rfl rfl
set_option maxRecDepth 100000 in
theorem tw_234 : (Jvm.Cond.instantiable "BakeHouse$Flat" (8 : Nat)) ∈ tg := tgT 234 rfl rfl
set_option maxRecDepth 100000 in
theorem tw_235 : (Jvm.Cond.methodLink "BakeHouse" (164 : Nat) ({ cls := "BakeHouse$Flat", name := "<init>", desc := "(LBakeHouse$Book;III)V" } : Jvm.MethodName)) ∈ tg := tgT 235 rfl rfl
set_option maxRecDepth 100000 in
theorem tw_236 : (Jvm.Cond.instanceMethod ({ cls := "BakeHouse$Flat", name := "<init>", desc := "(LBakeHouse$Book;III)V" } : Jvm.MethodName)) ∈ tg := tgT 236 rfl rfl
set_option maxRecDepth 100000 in
theorem tw_237 : (Jvm.Cond.code ({ cls := "BakeHouse$Flat", name := "<init>", desc := "(LBakeHouse$Book;III)V" } : Jvm.MethodName) prog_5_method_1_code (5 : Nat) (Option.none : Option Jvm.ClassFile.FieldType)) ∈ tg := tgT 237 rfl rfl
set_option maxRecDepth 100000 in
theorem tw_238 : (Jvm.Cond.methodLink "BakeHouse$Flat" (3 : Nat) ({ cls := "BakeHouse$Dough", name := "<init>", desc := "(LBakeHouse$Book;III)V" } : Jvm.MethodName)) ∈ tg := tgT 238 rfl rfl
set_option maxRecDepth 100000 in
theorem tw_239 : (Jvm.Cond.laysFinal "BakeHouse$Flat" "BakeHouse$Dough" "book" "LBakeHouse$Book;") ∈ tg := tgT 239 rfl rfl
set_option maxRecDepth 100000 in
theorem tw_240 : (Jvm.Cond.laysFinal "BakeHouse$Flat" "BakeHouse$Dough" "number" "I") ∈ tg := tgT 240 rfl rfl
set_option maxRecDepth 100000 in
theorem tw_241 : (Jvm.Cond.laysFinal "BakeHouse$Flat" "BakeHouse$Dough" "kind" "I") ∈ tg := tgT 241 rfl rfl
set_option maxRecDepth 100000 in
theorem tw_242 : (Jvm.Cond.laysFinal "BakeHouse$Flat" "BakeHouse$Dough" "mass" "I") ∈ tg := tgT 242 rfl rfl
set_option maxRecDepth 100000 in
theorem tw_243 : (Jvm.Cond.lays "BakeHouse$Flat" "BakeHouse$Dough" "air" "I") ∈ tg := tgT 243 rfl rfl
set_option maxRecDepth 100000 in
theorem tw_244 : (Jvm.Cond.lays "BakeHouse$Flat" "BakeHouse$Dough" "folds" "I") ∈ tg := tgT 244 rfl rfl
set_option maxRecDepth 100000 in
theorem tw_245 : (Jvm.Cond.lays "BakeHouse$Flat" "BakeHouse$Dough" "acid" "I") ∈ tg := tgT 245 rfl rfl
set_option maxRecDepth 100000 in
theorem tw_246 : (Jvm.Cond.lays "BakeHouse$Flat" "BakeHouse$Dough" "crust" "I") ∈ tg := tgT 246 rfl rfl
set_option maxRecDepth 100000 in
theorem tw_247 : (Jvm.Cond.superclass "BakeHouse$Flat" "BakeHouse$Dough") ∈ tg := tgT 247 rfl rfl
set_option maxRecDepth 100000 in
theorem tw_248 : (Jvm.Cond.classLink "BakeHouse" (165 : Nat) "BakeHouse$Levain") ∈ tg := tgT 248 rfl rfl
set_option maxRecDepth 100000 in
theorem tw_249 : (Jvm.Cond.instantiable "BakeHouse$Levain" (8 : Nat)) ∈ tg := tgT 249 rfl rfl
set_option maxRecDepth 100000 in
theorem tw_250 : (Jvm.Cond.methodLink "BakeHouse" (167 : Nat) ({ cls := "BakeHouse$Levain", name := "<init>", desc := "(LBakeHouse$Book;III)V" } : Jvm.MethodName)) ∈ tg := tgT 250 rfl rfl
set_option maxRecDepth 100000 in
theorem tw_251 : (Jvm.Cond.instanceMethod ({ cls := "BakeHouse$Levain", name := "<init>", desc := "(LBakeHouse$Book;III)V" } : Jvm.MethodName)) ∈ tg := tgT 251 rfl rfl
set_option maxRecDepth 100000 in
theorem tw_252 : (Jvm.Cond.code ({ cls := "BakeHouse$Levain", name := "<init>", desc := "(LBakeHouse$Book;III)V" } : Jvm.MethodName) prog_7_method_1_code (5 : Nat) (Option.none : Option Jvm.ClassFile.FieldType)) ∈ tg := tgT 252 rfl rfl
set_option maxRecDepth 100000 in
theorem tw_253 : (Jvm.Cond.methodLink "BakeHouse$Levain" (3 : Nat) ({ cls := "BakeHouse$Sour", name := "<init>", desc := "(LBakeHouse$Book;III)V" } : Jvm.MethodName)) ∈ tg := tgT 253 rfl rfl
set_option maxRecDepth 100000 in
theorem tw_254 : (Jvm.Cond.laysFinal "BakeHouse$Levain" "BakeHouse$Dough" "book" "LBakeHouse$Book;") ∈ tg := tgT 254 rfl rfl
set_option maxRecDepth 100000 in
theorem tw_255 : (Jvm.Cond.laysFinal "BakeHouse$Levain" "BakeHouse$Dough" "number" "I") ∈ tg := tgT 255 rfl rfl
set_option maxRecDepth 100000 in
theorem tw_256 : (Jvm.Cond.laysFinal "BakeHouse$Levain" "BakeHouse$Dough" "kind" "I") ∈ tg := tgT 256 rfl rfl
set_option maxRecDepth 100000 in
theorem tw_257 : (Jvm.Cond.laysFinal "BakeHouse$Levain" "BakeHouse$Dough" "mass" "I") ∈ tg := tgT 257 rfl rfl
set_option maxRecDepth 100000 in
theorem tw_258 : (Jvm.Cond.lays "BakeHouse$Levain" "BakeHouse$Dough" "air" "I") ∈ tg := tgT 258 rfl rfl
set_option maxRecDepth 100000 in
theorem tw_259 : (Jvm.Cond.lays "BakeHouse$Levain" "BakeHouse$Dough" "folds" "I") ∈ tg := tgT 259 rfl rfl
set_option maxRecDepth 100000 in
theorem tw_260 : (Jvm.Cond.lays "BakeHouse$Levain" "BakeHouse$Dough" "acid" "I") ∈ tg := tgT 260 rfl rfl
set_option maxRecDepth 100000 in
theorem tw_261 : (Jvm.Cond.lays "BakeHouse$Levain" "BakeHouse$Dough" "crust" "I") ∈ tg := tgT 261 rfl rfl
set_option maxRecDepth 100000 in
theorem tw_262 : (Jvm.Cond.superclass "BakeHouse$Levain" "BakeHouse$Sour") ∈ tg := tgT 262 rfl rfl
set_option maxRecDepth 100000 in
theorem tw_263 : (Jvm.Cond.instantiable "BakeHouse$Dough" (8 : Nat)) ∈ tg := tgT 263 rfl rfl
set_option maxRecDepth 100000 in
theorem tw_264 : (Jvm.Cond.methodLink "BakeHouse" (168 : Nat) ({ cls := "BakeHouse$Dough", name := "<init>", desc := "(LBakeHouse$Book;III)V" } : Jvm.MethodName)) ∈ tg := tgT 264 rfl rfl
set_option maxRecDepth 100000 in
theorem tw_265 : (Jvm.Cond.laysFinal "BakeHouse$Dough" "BakeHouse$Dough" "book" "LBakeHouse$Book;") ∈ tg := tgT 265 rfl rfl
set_option maxRecDepth 100000 in
theorem tw_266 : (Jvm.Cond.laysFinal "BakeHouse$Dough" "BakeHouse$Dough" "number" "I") ∈ tg := tgT 266 rfl rfl
set_option maxRecDepth 100000 in
theorem tw_267 : (Jvm.Cond.laysFinal "BakeHouse$Dough" "BakeHouse$Dough" "kind" "I") ∈ tg := tgT 267 rfl rfl
set_option maxRecDepth 100000 in
theorem tw_268 : (Jvm.Cond.laysFinal "BakeHouse$Dough" "BakeHouse$Dough" "mass" "I") ∈ tg := tgT 268 rfl rfl
set_option maxRecDepth 100000 in
theorem tw_269 : (Jvm.Cond.lays "BakeHouse$Dough" "BakeHouse$Dough" "air" "I") ∈ tg := tgT 269 rfl rfl
set_option maxRecDepth 100000 in
theorem tw_270 : (Jvm.Cond.lays "BakeHouse$Dough" "BakeHouse$Dough" "folds" "I") ∈ tg := tgT 270 rfl rfl
set_option maxRecDepth 100000 in
theorem tw_271 : (Jvm.Cond.lays "BakeHouse$Dough" "BakeHouse$Dough" "acid" "I") ∈ tg := tgT 271 rfl rfl
set_option maxRecDepth 100000 in
theorem tw_272 : (Jvm.Cond.lays "BakeHouse$Dough" "BakeHouse$Dough" "crust" "I") ∈ tg := tgT 272 rfl rfl
set_option maxRecDepth 100000 in
theorem tw_273 : (Jvm.Cond.superclass "BakeHouse$Dough" "java/lang/Object") ∈ tg := tgT 273 rfl rfl
set_option maxRecDepth 100000 in
theorem tw_274 : (Jvm.Cond.methodLink "BakeHouseLaw" (58 : Nat) ({ cls := "BakeHouse", name := "out", desc := "(I)I" } : Jvm.MethodName)) ∈ tg := tgT 274 rfl rfl
set_option maxRecDepth 100000 in
theorem tw_275 : (Jvm.Cond.instanceMethod ({ cls := "BakeHouse", name := "out", desc := "(I)I" } : Jvm.MethodName)) ∈ tg := tgT 275 rfl rfl
set_option maxRecDepth 100000 in
theorem tw_276 : (Jvm.Cond.selects "BakeHouse" ({ cls := "BakeHouse", name := "out", desc := "(I)I" } : Jvm.MethodName) ({ cls := "BakeHouse", name := "out", desc := "(I)I" } : Jvm.MethodName)) ∈ tg := tgT 276 rfl rfl
set_option maxRecDepth 100000 in
theorem tw_277 : (Jvm.Cond.code ({ cls := "BakeHouse", name := "out", desc := "(I)I" } : Jvm.MethodName) prog_1_method_4_code (3 : Nat) (Option.some Jvm.ClassFile.FieldType.int)) ∈ tg := tgT 277 rfl rfl
set_option maxRecDepth 100000 in
theorem tw_278 : (Jvm.Cond.methodLink "BakeHouse" (41 : Nat) ({ cls := "BakeHouse", name := "findShelf", desc := "(I)LBakeHouse$Shelf;" } : Jvm.MethodName)) ∈ tg := tgT 278 rfl rfl
set_option maxRecDepth 100000 in
theorem tw_280 : (Jvm.Cond.instanceMethod ({ cls := "BakeHouse", name := "findShelf", desc := "(I)LBakeHouse$Shelf;" } : Jvm.MethodName)) ∈ tg := tgT 280 rfl rfl
set_option maxRecDepth 100000 in
theorem tw_281 : (Jvm.Cond.code ({ cls := "BakeHouse", name := "findShelf", desc := "(I)LBakeHouse$Shelf;" } : Jvm.MethodName) prog_1_method_21_code (2 : Nat) (Option.some (Jvm.ClassFile.FieldType.object "BakeHouse$Shelf"))) ∈ tg := tgT 281 rfl rfl
set_option maxRecDepth 100000 in
theorem tw_282 : (Jvm.Cond.methodLink "BakeHouse" (56 : Nat) ({ cls := "BakeHouse$Shelf", name := "isOut", desc := "()Z" } : Jvm.MethodName)) ∈ tg := tgT 282 rfl rfl
set_option maxRecDepth 100000 in
theorem tw_283 : (Jvm.Cond.instanceMethod ({ cls := "BakeHouse$Shelf", name := "isOut", desc := "()Z" } : Jvm.MethodName)) ∈ tg := tgT 283 rfl rfl
set_option maxRecDepth 100000 in
theorem tw_284 : (Jvm.Cond.selects "BakeHouse$Shelf" ({ cls := "BakeHouse$Shelf", name := "isOut", desc := "()Z" } : Jvm.MethodName) ({ cls := "BakeHouse$Shelf", name := "isOut", desc := "()Z" } : Jvm.MethodName)) ∈ tg := tgT 284 rfl rfl
set_option maxRecDepth 100000 in
theorem tw_285 : (Jvm.Cond.code ({ cls := "BakeHouse$Shelf", name := "isOut", desc := "()Z" } : Jvm.MethodName) prog_9_method_2_code (1 : Nat) (Option.some Jvm.ClassFile.FieldType.boolean)) ∈ tg := tgT 285 rfl rfl
set_option maxRecDepth 100000 in
theorem tw_286 : (Jvm.Cond.methodLink "BakeHouse" (60 : Nat) ({ cls := "BakeHouse$Shelf", name := "takeOut", desc := "()V" } : Jvm.MethodName)) ∈ tg := tgT 286 rfl rfl
set_option maxRecDepth 100000 in
theorem tw_287 : (Jvm.Cond.instanceMethod ({ cls := "BakeHouse$Shelf", name := "takeOut", desc := "()V" } : Jvm.MethodName)) ∈ tg := tgT 287 rfl rfl
set_option maxRecDepth 100000 in
theorem tw_288 : (Jvm.Cond.selects "BakeHouse$Shelf" ({ cls := "BakeHouse$Shelf", name := "takeOut", desc := "()V" } : Jvm.MethodName) ({ cls := "BakeHouse$Shelf", name := "takeOut", desc := "()V" } : Jvm.MethodName)) ∈ tg := tgT 288 rfl rfl
set_option maxRecDepth 100000 in
theorem tw_289 : (Jvm.Cond.code ({ cls := "BakeHouse$Shelf", name := "takeOut", desc := "()V" } : Jvm.MethodName) prog_9_method_4_code (1 : Nat) (Option.none : Option Jvm.ClassFile.FieldType)) ∈ tg := tgT 289 rfl rfl
set_option maxRecDepth 100000 in
theorem tw_290 : (Jvm.Cond.methodLink "BakeHouseLaw" (65 : Nat) ({ cls := "BakeHouse", name := "fold", desc := "(I)I" } : Jvm.MethodName)) ∈ tg := tgT 290 rfl rfl
set_option maxRecDepth 100000 in
theorem tw_291 : (Jvm.Cond.instanceMethod ({ cls := "BakeHouse", name := "fold", desc := "(I)I" } : Jvm.MethodName)) ∈ tg := tgT 291 rfl rfl
set_option maxRecDepth 100000 in
theorem tw_292 : (Jvm.Cond.selects "BakeHouse" ({ cls := "BakeHouse", name := "fold", desc := "(I)I" } : Jvm.MethodName) ({ cls := "BakeHouse", name := "fold", desc := "(I)I" } : Jvm.MethodName)) ∈ tg := tgT 292 rfl rfl
set_option maxRecDepth 100000 in
theorem tw_293 : (Jvm.Cond.code ({ cls := "BakeHouse", name := "fold", desc := "(I)I" } : Jvm.MethodName) prog_1_method_6_code (3 : Nat) (Option.some Jvm.ClassFile.FieldType.int)) ∈ tg := tgT 293 rfl rfl
set_option maxRecDepth 100000 in
theorem tw_294 : (Jvm.Cond.methodLink "BakeHouse" (63 : Nat) ({ cls := "BakeHouse", name := "findLoaf", desc := "(I)LBakeHouse$Dough;" } : Jvm.MethodName)) ∈ tg := tgT 294 rfl rfl
set_option maxRecDepth 100000 in
theorem tw_296 : (Jvm.Cond.instanceMethod ({ cls := "BakeHouse", name := "findLoaf", desc := "(I)LBakeHouse$Dough;" } : Jvm.MethodName)) ∈ tg := tgT 296 rfl rfl
set_option maxRecDepth 100000 in
theorem tw_297 : (Jvm.Cond.code ({ cls := "BakeHouse", name := "findLoaf", desc := "(I)LBakeHouse$Dough;" } : Jvm.MethodName) prog_1_method_20_code (2 : Nat) (Option.some (Jvm.ClassFile.FieldType.object "BakeHouse$Dough"))) ∈ tg := tgT 297 rfl rfl
set_option maxRecDepth 100000 in
theorem tw_298 : (Jvm.Cond.methodLink "BakeHouse" (71 : Nat) ({ cls := "BakeHouse$Dough", name := "doFold", desc := "()V" } : Jvm.MethodName)) ∈ tg := tgT 298 rfl rfl
set_option maxRecDepth 100000 in
theorem tw_299 : (Jvm.Cond.instanceMethod ({ cls := "BakeHouse$Dough", name := "doFold", desc := "()V" } : Jvm.MethodName)) ∈ tg := tgT 299 rfl rfl
set_option maxRecDepth 100000 in
theorem tw_300 : (Jvm.Cond.selects "BakeHouse$Dough" ({ cls := "BakeHouse$Dough", name := "doFold", desc := "()V" } : Jvm.MethodName) ({ cls := "BakeHouse$Dough", name := "doFold", desc := "()V" } : Jvm.MethodName)) ∈ tg := tgT 300 rfl rfl
set_option maxRecDepth 100000 in
theorem tw_301 : (Jvm.Cond.sameMethod "BakeHouse$Dough" "BakeHouse$Dough" "doFold" "()V") ∈ tg := tgT 301 rfl rfl
set_option maxRecDepth 100000 in
theorem tw_302 : (Jvm.Cond.selects "BakeHouse$Brioche" ({ cls := "BakeHouse$Dough", name := "doFold", desc := "()V" } : Jvm.MethodName) ({ cls := "BakeHouse$Sweet", name := "doFold", desc := "()V" } : Jvm.MethodName)) ∈ tg := tgT 302 rfl rfl
set_option maxRecDepth 100000 in
theorem tw_303 : (Jvm.Cond.instanceMethod ({ cls := "BakeHouse$Sweet", name := "doFold", desc := "()V" } : Jvm.MethodName)) ∈ tg := tgT 303 rfl rfl
set_option maxRecDepth 100000 in
theorem tw_304 : (Jvm.Cond.code ({ cls := "BakeHouse$Sweet", name := "doFold", desc := "()V" } : Jvm.MethodName) prog_11_method_2_code (1 : Nat) (Option.none : Option Jvm.ClassFile.FieldType)) ∈ tg := tgT 304 rfl rfl
set_option maxRecDepth 100000 in
theorem tw_305 : (Jvm.Cond.methodLink "BakeHouse$Sweet" (15 : Nat) ({ cls := "BakeHouse$Book", name := "begin", desc := "(II)V" } : Jvm.MethodName)) ∈ tg := tgT 305 rfl rfl
set_option maxRecDepth 100000 in
theorem tw_306 : (Jvm.Cond.instanceMethod ({ cls := "BakeHouse$Book", name := "begin", desc := "(II)V" } : Jvm.MethodName)) ∈ tg := tgT 306 rfl rfl
set_option maxRecDepth 100000 in
theorem tw_307 : (Jvm.Cond.selects "BakeHouse$Book" ({ cls := "BakeHouse$Book", name := "begin", desc := "(II)V" } : Jvm.MethodName) ({ cls := "BakeHouse$Book", name := "begin", desc := "(II)V" } : Jvm.MethodName)) ∈ tg := tgT 307 rfl rfl
set_option maxRecDepth 100000 in
theorem tw_308 : (Jvm.Cond.code ({ cls := "BakeHouse$Book", name := "begin", desc := "(II)V" } : Jvm.MethodName) prog_2_method_2_code (3 : Nat) (Option.none : Option Jvm.ClassFile.FieldType)) ∈ tg := tgT 308 rfl rfl
set_option maxRecDepth 100000 in
theorem tw_309 : (Jvm.Cond.methodLink "BakeHouse$Sweet" (21 : Nat) ({ cls := "BakeHouse$Leavened", name := "doFold", desc := "()V" } : Jvm.MethodName)) ∈ tg := tgT 309 rfl rfl
set_option maxRecDepth 100000 in
theorem tw_310 : (Jvm.Cond.sameMethod "BakeHouse$Leavened" "BakeHouse$Dough" "doFold" "()V") ∈ tg := tgT 310 rfl rfl
set_option maxRecDepth 100000 in
theorem tw_312 : (Jvm.Cond.selects "BakeHouse$Flat" ({ cls := "BakeHouse$Dough", name := "doFold", desc := "()V" } : Jvm.MethodName) ({ cls := "BakeHouse$Flat", name := "doFold", desc := "()V" } : Jvm.MethodName)) ∈ tg := tgT 312 rfl rfl
set_option maxRecDepth 100000 in
theorem tw_313 : (Jvm.Cond.instanceMethod ({ cls := "BakeHouse$Flat", name := "doFold", desc := "()V" } : Jvm.MethodName)) ∈ tg := tgT 313 rfl rfl
set_option maxRecDepth 100000 in
theorem tw_314 : (Jvm.Cond.code ({ cls := "BakeHouse$Flat", name := "doFold", desc := "()V" } : Jvm.MethodName) prog_5_method_2_code (1 : Nat) (Option.none : Option Jvm.ClassFile.FieldType)) ∈ tg := tgT 314 rfl rfl
set_option maxRecDepth 100000 in
theorem tw_315 : (Jvm.Cond.methodLink "BakeHouse$Flat" (15 : Nat) ({ cls := "BakeHouse$Book", name := "begin", desc := "(II)V" } : Jvm.MethodName)) ∈ tg := tgT 315 rfl rfl
set_option maxRecDepth 100000 in
theorem tw_316 : (Jvm.Cond.selects "BakeHouse$Leavened" ({ cls := "BakeHouse$Dough", name := "doFold", desc := "()V" } : Jvm.MethodName) ({ cls := "BakeHouse$Dough", name := "doFold", desc := "()V" } : Jvm.MethodName)) ∈ tg := tgT 316 rfl rfl
set_option maxRecDepth 100000 in
theorem tw_317 : (Jvm.Cond.selects "BakeHouse$Levain" ({ cls := "BakeHouse$Dough", name := "doFold", desc := "()V" } : Jvm.MethodName) ({ cls := "BakeHouse$Sour", name := "doFold", desc := "()V" } : Jvm.MethodName)) ∈ tg := tgT 317 rfl rfl
set_option maxRecDepth 100000 in
theorem tw_318 : (Jvm.Cond.instanceMethod ({ cls := "BakeHouse$Sour", name := "doFold", desc := "()V" } : Jvm.MethodName)) ∈ tg := tgT 318 rfl rfl
set_option maxRecDepth 100000 in
theorem tw_319 : (Jvm.Cond.code ({ cls := "BakeHouse$Sour", name := "doFold", desc := "()V" } : Jvm.MethodName) prog_10_method_3_code (1 : Nat) (Option.none : Option Jvm.ClassFile.FieldType)) ∈ tg := tgT 319 rfl rfl
set_option maxRecDepth 100000 in
theorem tw_320 : (Jvm.Cond.methodLink "BakeHouse$Sour" (15 : Nat) ({ cls := "BakeHouse$Book", name := "begin", desc := "(II)V" } : Jvm.MethodName)) ∈ tg := tgT 320 rfl rfl
set_option maxRecDepth 100000 in
theorem tw_321 : (Jvm.Cond.methodLink "BakeHouse$Sour" (29 : Nat) ({ cls := "BakeHouse$Rye", name := "doFold", desc := "()V" } : Jvm.MethodName)) ∈ tg := tgT 321 rfl rfl
set_option maxRecDepth 100000 in
theorem tw_322 : (Jvm.Cond.sameMethod "BakeHouse$Rye" "BakeHouse$Dough" "doFold" "()V") ∈ tg := tgT 322 rfl rfl
set_option maxRecDepth 100000 in
theorem tw_323 : (Jvm.Cond.methodLink "BakeHouse$Sour" (33 : Nat) ({ cls := "java/lang/Math", name := "max", desc := "(II)I" } : Jvm.MethodName)) ∈ tg := tgT 323 rfl rfl
set_option maxRecDepth 100000 in
theorem tw_324 : (Jvm.Cond.static ({ cls := "java/lang/Math", name := "max", desc := "(II)I" } : Jvm.MethodName)) ∈ tg := tgT 324 rfl rfl
set_option maxRecDepth 100000 in
theorem tw_325 : (Jvm.Cond.code ({ cls := "java/lang/Math", name := "max", desc := "(II)I" } : Jvm.MethodName) prog_19_method_65_code (2 : Nat) (Option.some Jvm.ClassFile.FieldType.int)) ∈ tg := tgT 325 rfl rfl
set_option maxRecDepth 100000 in
theorem tw_326 : (Jvm.Cond.selects "BakeHouse$Rye" ({ cls := "BakeHouse$Dough", name := "doFold", desc := "()V" } : Jvm.MethodName) ({ cls := "BakeHouse$Dough", name := "doFold", desc := "()V" } : Jvm.MethodName)) ∈ tg := tgT 326 rfl rfl
set_option maxRecDepth 100000 in
theorem tw_327 : (Jvm.Cond.selects "BakeHouse$Sour" ({ cls := "BakeHouse$Dough", name := "doFold", desc := "()V" } : Jvm.MethodName) ({ cls := "BakeHouse$Sour", name := "doFold", desc := "()V" } : Jvm.MethodName)) ∈ tg := tgT 327 rfl rfl
set_option maxRecDepth 100000 in
theorem tw_328 : (Jvm.Cond.selects "BakeHouse$Sweet" ({ cls := "BakeHouse$Dough", name := "doFold", desc := "()V" } : Jvm.MethodName) ({ cls := "BakeHouse$Sweet", name := "doFold", desc := "()V" } : Jvm.MethodName)) ∈ tg := tgT 328 rfl rfl
set_option maxRecDepth 100000 in
theorem tw_329 : (Jvm.Cond.code ({ cls := "BakeHouse$Dough", name := "doFold", desc := "()V" } : Jvm.MethodName) prog_4_method_3_code (1 : Nat) (Option.none : Option Jvm.ClassFile.FieldType)) ∈ tg := tgT 329 rfl rfl
set_option maxRecDepth 100000 in
theorem tw_330 : (Jvm.Cond.methodLink "BakeHouse$Dough" (37 : Nat) ({ cls := "BakeHouse$Book", name := "begin", desc := "(II)V" } : Jvm.MethodName)) ∈ tg := tgT 330 rfl rfl
set_option maxRecDepth 100000 in
theorem tw_331 : (Jvm.Cond.methodLink "BakeHouseLaw" (73 : Nat) ({ cls := "BakeHouse", name := "bake", desc := "(II)I" } : Jvm.MethodName)) ∈ tg := tgT 331 rfl rfl
set_option maxRecDepth 100000 in
theorem tw_332 : (Jvm.Cond.instanceMethod ({ cls := "BakeHouse", name := "bake", desc := "(II)I" } : Jvm.MethodName)) ∈ tg := tgT 332 rfl rfl
set_option maxRecDepth 100000 in
theorem tw_333 : (Jvm.Cond.selects "BakeHouse" ({ cls := "BakeHouse", name := "bake", desc := "(II)I" } : Jvm.MethodName) ({ cls := "BakeHouse", name := "bake", desc := "(II)I" } : Jvm.MethodName)) ∈ tg := tgT 333 rfl rfl
set_option maxRecDepth 100000 in
theorem tw_334 : (Jvm.Cond.code ({ cls := "BakeHouse", name := "bake", desc := "(II)I" } : Jvm.MethodName) prog_1_method_8_code (4 : Nat) (Option.some Jvm.ClassFile.FieldType.int)) ∈ tg := tgT 334 rfl rfl
set_option maxRecDepth 100000 in
theorem tw_335 : (Jvm.Cond.methodLink "BakeHouse" (84 : Nat) ({ cls := "BakeHouse$Dough", name := "doBake", desc := "(I)Z" } : Jvm.MethodName)) ∈ tg := tgT 335 rfl rfl
set_option maxRecDepth 100000 in
theorem tw_336 : (Jvm.Cond.instanceMethod ({ cls := "BakeHouse$Dough", name := "doBake", desc := "(I)Z" } : Jvm.MethodName)) ∈ tg := tgT 336 rfl rfl
set_option maxRecDepth 100000 in
theorem tw_337 : (Jvm.Cond.selects "BakeHouse$Dough" ({ cls := "BakeHouse$Dough", name := "doBake", desc := "(I)Z" } : Jvm.MethodName) ({ cls := "BakeHouse$Dough", name := "doBake", desc := "(I)Z" } : Jvm.MethodName)) ∈ tg := tgT 337 rfl rfl
set_option maxRecDepth 100000 in
theorem tw_338 : (Jvm.Cond.sameMethod "BakeHouse$Dough" "BakeHouse$Dough" "doBake" "(I)Z") ∈ tg := tgT 338 rfl rfl
set_option maxRecDepth 100000 in
theorem tw_339 : (Jvm.Cond.selects "BakeHouse$Brioche" ({ cls := "BakeHouse$Dough", name := "doBake", desc := "(I)Z" } : Jvm.MethodName) ({ cls := "BakeHouse$Sweet", name := "doBake", desc := "(I)Z" } : Jvm.MethodName)) ∈ tg := tgT 339 rfl rfl
set_option maxRecDepth 100000 in
theorem tw_340 : (Jvm.Cond.instanceMethod ({ cls := "BakeHouse$Sweet", name := "doBake", desc := "(I)Z" } : Jvm.MethodName)) ∈ tg := tgT 340 rfl rfl
set_option maxRecDepth 100000 in
theorem tw_341 : (Jvm.Cond.code ({ cls := "BakeHouse$Sweet", name := "doBake", desc := "(I)Z" } : Jvm.MethodName) prog_11_method_3_code (2 : Nat) (Option.some Jvm.ClassFile.FieldType.boolean)) ∈ tg := tgT 341 rfl rfl
set_option maxRecDepth 100000 in
theorem tw_342 : (Jvm.Cond.methodLink "BakeHouse$Sweet" (25 : Nat) ({ cls := "BakeHouse$Leavened", name := "doBake", desc := "(I)Z" } : Jvm.MethodName)) ∈ tg := tgT 342 rfl rfl
set_option maxRecDepth 100000 in
theorem tw_343 : (Jvm.Cond.sameMethod "BakeHouse$Leavened" "BakeHouse$Dough" "doBake" "(I)Z") ∈ tg := tgT 343 rfl rfl
set_option maxRecDepth 100000 in
theorem tw_345 : (Jvm.Cond.selects "BakeHouse$Flat" ({ cls := "BakeHouse$Dough", name := "doBake", desc := "(I)Z" } : Jvm.MethodName) ({ cls := "BakeHouse$Flat", name := "doBake", desc := "(I)Z" } : Jvm.MethodName)) ∈ tg := tgT 345 rfl rfl
set_option maxRecDepth 100000 in
theorem tw_346 : (Jvm.Cond.instanceMethod ({ cls := "BakeHouse$Flat", name := "doBake", desc := "(I)Z" } : Jvm.MethodName)) ∈ tg := tgT 346 rfl rfl
set_option maxRecDepth 100000 in
theorem tw_347 : (Jvm.Cond.code ({ cls := "BakeHouse$Flat", name := "doBake", desc := "(I)Z" } : Jvm.MethodName) prog_5_method_4_code (2 : Nat) (Option.some Jvm.ClassFile.FieldType.boolean)) ∈ tg := tgT 347 rfl rfl
set_option maxRecDepth 100000 in
theorem tw_348 : (Jvm.Cond.methodLink "BakeHouse$Flat" (29 : Nat) ({ cls := "BakeHouse$Dough", name := "doBake", desc := "(I)Z" } : Jvm.MethodName)) ∈ tg := tgT 348 rfl rfl
set_option maxRecDepth 100000 in
theorem tw_349 : (Jvm.Cond.selects "BakeHouse$Leavened" ({ cls := "BakeHouse$Dough", name := "doBake", desc := "(I)Z" } : Jvm.MethodName) ({ cls := "BakeHouse$Dough", name := "doBake", desc := "(I)Z" } : Jvm.MethodName)) ∈ tg := tgT 349 rfl rfl
set_option maxRecDepth 100000 in
theorem tw_350 : (Jvm.Cond.selects "BakeHouse$Levain" ({ cls := "BakeHouse$Dough", name := "doBake", desc := "(I)Z" } : Jvm.MethodName) ({ cls := "BakeHouse$Sour", name := "doBake", desc := "(I)Z" } : Jvm.MethodName)) ∈ tg := tgT 350 rfl rfl
set_option maxRecDepth 100000 in
theorem tw_351 : (Jvm.Cond.instanceMethod ({ cls := "BakeHouse$Sour", name := "doBake", desc := "(I)Z" } : Jvm.MethodName)) ∈ tg := tgT 351 rfl rfl
set_option maxRecDepth 100000 in
theorem tw_352 : (Jvm.Cond.code ({ cls := "BakeHouse$Sour", name := "doBake", desc := "(I)Z" } : Jvm.MethodName) prog_10_method_4_code (3 : Nat) (Option.some Jvm.ClassFile.FieldType.boolean)) ∈ tg := tgT 352 rfl rfl
set_option maxRecDepth 100000 in
theorem tw_353 : (Jvm.Cond.methodLink "BakeHouse$Sour" (39 : Nat) ({ cls := "BakeHouse$Rye", name := "doBake", desc := "(I)Z" } : Jvm.MethodName)) ∈ tg := tgT 353 rfl rfl
set_option maxRecDepth 100000 in
theorem tw_354 : (Jvm.Cond.instanceMethod ({ cls := "BakeHouse$Rye", name := "doBake", desc := "(I)Z" } : Jvm.MethodName)) ∈ tg := tgT 354 rfl rfl
set_option maxRecDepth 100000 in
theorem tw_355 : (Jvm.Cond.code ({ cls := "BakeHouse$Rye", name := "doBake", desc := "(I)Z" } : Jvm.MethodName) prog_8_method_3_code (2 : Nat) (Option.some Jvm.ClassFile.FieldType.boolean)) ∈ tg := tgT 355 rfl rfl
set_option maxRecDepth 100000 in
theorem tw_356 : (Jvm.Cond.methodLink "BakeHouse$Rye" (15 : Nat) ({ cls := "BakeHouse$Book", name := "begin", desc := "(II)V" } : Jvm.MethodName)) ∈ tg := tgT 356 rfl rfl
set_option maxRecDepth 100000 in
theorem tw_357 : (Jvm.Cond.methodLink "BakeHouse$Rye" (25 : Nat) ({ cls := "BakeHouse$Leavened", name := "doBake", desc := "(I)Z" } : Jvm.MethodName)) ∈ tg := tgT 357 rfl rfl
set_option maxRecDepth 100000 in
theorem tw_358 : (Jvm.Cond.selects "BakeHouse$Rye" ({ cls := "BakeHouse$Dough", name := "doBake", desc := "(I)Z" } : Jvm.MethodName) ({ cls := "BakeHouse$Rye", name := "doBake", desc := "(I)Z" } : Jvm.MethodName)) ∈ tg := tgT 358 rfl rfl
set_option maxRecDepth 100000 in
theorem tw_359 : (Jvm.Cond.selects "BakeHouse$Sour" ({ cls := "BakeHouse$Dough", name := "doBake", desc := "(I)Z" } : Jvm.MethodName) ({ cls := "BakeHouse$Sour", name := "doBake", desc := "(I)Z" } : Jvm.MethodName)) ∈ tg := tgT 359 rfl rfl
set_option maxRecDepth 100000 in
theorem tw_360 : (Jvm.Cond.selects "BakeHouse$Sweet" ({ cls := "BakeHouse$Dough", name := "doBake", desc := "(I)Z" } : Jvm.MethodName) ({ cls := "BakeHouse$Sweet", name := "doBake", desc := "(I)Z" } : Jvm.MethodName)) ∈ tg := tgT 360 rfl rfl
set_option maxRecDepth 100000 in
theorem tw_361 : (Jvm.Cond.code ({ cls := "BakeHouse$Dough", name := "doBake", desc := "(I)Z" } : Jvm.MethodName) prog_4_method_5_code (2 : Nat) (Option.some Jvm.ClassFile.FieldType.boolean)) ∈ tg := tgT 361 rfl rfl
set_option maxRecDepth 100000 in
theorem tw_362 : (Jvm.Cond.methodLink "BakeHouse$Dough" (77 : Nat) ({ cls := "BakeHouse$Dough", name := "isDoneByCrust", desc := "()Z" } : Jvm.MethodName)) ∈ tg := tgT 362 rfl rfl
set_option maxRecDepth 100000 in
theorem tw_363 : (Jvm.Cond.instanceMethod ({ cls := "BakeHouse$Dough", name := "isDoneByCrust", desc := "()Z" } : Jvm.MethodName)) ∈ tg := tgT 363 rfl rfl
set_option maxRecDepth 100000 in
theorem tw_364 : (Jvm.Cond.selects "BakeHouse$Dough" ({ cls := "BakeHouse$Dough", name := "isDoneByCrust", desc := "()Z" } : Jvm.MethodName) ({ cls := "BakeHouse$Dough", name := "isDoneByCrust", desc := "()Z" } : Jvm.MethodName)) ∈ tg := tgT 364 rfl rfl
set_option maxRecDepth 100000 in
theorem tw_365 : (Jvm.Cond.sameMethod "BakeHouse$Dough" "BakeHouse$Dough" "isDoneByCrust" "()Z") ∈ tg := tgT 365 rfl rfl
set_option maxRecDepth 100000 in
theorem tw_366 : (Jvm.Cond.selects "BakeHouse$Brioche" ({ cls := "BakeHouse$Dough", name := "isDoneByCrust", desc := "()Z" } : Jvm.MethodName) ({ cls := "BakeHouse$Dough", name := "isDoneByCrust", desc := "()Z" } : Jvm.MethodName)) ∈ tg := tgT 366 rfl rfl
set_option maxRecDepth 100000 in
theorem tw_367 : (Jvm.Cond.selects "BakeHouse$Flat" ({ cls := "BakeHouse$Dough", name := "isDoneByCrust", desc := "()Z" } : Jvm.MethodName) ({ cls := "BakeHouse$Dough", name := "isDoneByCrust", desc := "()Z" } : Jvm.MethodName)) ∈ tg := tgT 367 rfl rfl
set_option maxRecDepth 100000 in
theorem tw_368 : (Jvm.Cond.selects "BakeHouse$Leavened" ({ cls := "BakeHouse$Dough", name := "isDoneByCrust", desc := "()Z" } : Jvm.MethodName) ({ cls := "BakeHouse$Dough", name := "isDoneByCrust", desc := "()Z" } : Jvm.MethodName)) ∈ tg := tgT 368 rfl rfl
set_option maxRecDepth 100000 in
theorem tw_369 : (Jvm.Cond.selects "BakeHouse$Levain" ({ cls := "BakeHouse$Dough", name := "isDoneByCrust", desc := "()Z" } : Jvm.MethodName) ({ cls := "BakeHouse$Dough", name := "isDoneByCrust", desc := "()Z" } : Jvm.MethodName)) ∈ tg := tgT 369 rfl rfl
set_option maxRecDepth 100000 in
theorem tw_370 : (Jvm.Cond.selects "BakeHouse$Rye" ({ cls := "BakeHouse$Dough", name := "isDoneByCrust", desc := "()Z" } : Jvm.MethodName) ({ cls := "BakeHouse$Dough", name := "isDoneByCrust", desc := "()Z" } : Jvm.MethodName)) ∈ tg := tgT 370 rfl rfl
set_option maxRecDepth 100000 in
theorem tw_371 : (Jvm.Cond.selects "BakeHouse$Sour" ({ cls := "BakeHouse$Dough", name := "isDoneByCrust", desc := "()Z" } : Jvm.MethodName) ({ cls := "BakeHouse$Dough", name := "isDoneByCrust", desc := "()Z" } : Jvm.MethodName)) ∈ tg := tgT 371 rfl rfl
set_option maxRecDepth 100000 in
theorem tw_372 : (Jvm.Cond.selects "BakeHouse$Sweet" ({ cls := "BakeHouse$Dough", name := "isDoneByCrust", desc := "()Z" } : Jvm.MethodName) ({ cls := "BakeHouse$Dough", name := "isDoneByCrust", desc := "()Z" } : Jvm.MethodName)) ∈ tg := tgT 372 rfl rfl
set_option maxRecDepth 100000 in
theorem tw_373 : (Jvm.Cond.code ({ cls := "BakeHouse$Dough", name := "isDoneByCrust", desc := "()Z" } : Jvm.MethodName) prog_4_method_7_code (1 : Nat) (Option.some Jvm.ClassFile.FieldType.boolean)) ∈ tg := tgT 373 rfl rfl
set_option maxRecDepth 100000 in
theorem tw_374 : (Jvm.Cond.methodLink "BakeHouseLaw" (87 : Nat) ({ cls := "BakeHouse", name := "fire", desc := "(I)I" } : Jvm.MethodName)) ∈ tg := tgT 374 rfl rfl
set_option maxRecDepth 100000 in
theorem tw_375 : (Jvm.Cond.instanceMethod ({ cls := "BakeHouse", name := "fire", desc := "(I)I" } : Jvm.MethodName)) ∈ tg := tgT 375 rfl rfl
set_option maxRecDepth 100000 in
theorem tw_376 : (Jvm.Cond.selects "BakeHouse" ({ cls := "BakeHouse", name := "fire", desc := "(I)I" } : Jvm.MethodName) ({ cls := "BakeHouse", name := "fire", desc := "(I)I" } : Jvm.MethodName)) ∈ tg := tgT 376 rfl rfl
set_option maxRecDepth 100000 in
theorem tw_377 : (Jvm.Cond.code ({ cls := "BakeHouse", name := "fire", desc := "(I)I" } : Jvm.MethodName) prog_1_method_12_code (4 : Nat) (Option.some Jvm.ClassFile.FieldType.int)) ∈ tg := tgT 377 rfl rfl
set_option maxRecDepth 100000 in
theorem tw_378 : (Jvm.Cond.methodLink "BakeHouse" (101 : Nat) ({ cls := "BakeHouse", name := "bakeShelf", desc := "(LBakeHouse$Shelf;I)I" } : Jvm.MethodName)) ∈ tg := tgT 378 rfl rfl
set_option maxRecDepth 100000 in
theorem tw_380 : (Jvm.Cond.instanceMethod ({ cls := "BakeHouse", name := "bakeShelf", desc := "(LBakeHouse$Shelf;I)I" } : Jvm.MethodName)) ∈ tg := tgT 380 rfl rfl
set_option maxRecDepth 100000 in
theorem tw_381 : (Jvm.Cond.code ({ cls := "BakeHouse", name := "bakeShelf", desc := "(LBakeHouse$Shelf;I)I" } : Jvm.MethodName) prog_1_method_24_code (6 : Nat) (Option.some Jvm.ClassFile.FieldType.int)) ∈ tg := tgT 381 rfl rfl
set_option maxRecDepth 100000 in
theorem tw_382 : (Jvm.Cond.methodLink "BakeHouse" (109 : Nat) ({ cls := "BakeHouse$Shelf", name := "loafIn", desc := "(I)I" } : Jvm.MethodName)) ∈ tg := tgT 382 rfl rfl
set_option maxRecDepth 100000 in
theorem tw_383 : (Jvm.Cond.instanceMethod ({ cls := "BakeHouse$Shelf", name := "loafIn", desc := "(I)I" } : Jvm.MethodName)) ∈ tg := tgT 383 rfl rfl
set_option maxRecDepth 100000 in
theorem tw_384 : (Jvm.Cond.selects "BakeHouse$Shelf" ({ cls := "BakeHouse$Shelf", name := "loafIn", desc := "(I)I" } : Jvm.MethodName) ({ cls := "BakeHouse$Shelf", name := "loafIn", desc := "(I)I" } : Jvm.MethodName)) ∈ tg := tgT 384 rfl rfl
set_option maxRecDepth 100000 in
theorem tw_385 : (Jvm.Cond.code ({ cls := "BakeHouse$Shelf", name := "loafIn", desc := "(I)I" } : Jvm.MethodName) prog_9_method_6_code (2 : Nat) (Option.some Jvm.ClassFile.FieldType.int)) ∈ tg := tgT 385 rfl rfl
set_option maxRecDepth 100000 in
theorem tw_386 : (Jvm.Cond.methodLink "BakeHouse$Shelf" (19 : Nat) ({ cls := "BakeHouse$Shelf", name := "has", desc := "(I)Z" } : Jvm.MethodName)) ∈ tg := tgT 386 rfl rfl
set_option maxRecDepth 100000 in
theorem tw_387 : (Jvm.Cond.instanceMethod ({ cls := "BakeHouse$Shelf", name := "has", desc := "(I)Z" } : Jvm.MethodName)) ∈ tg := tgT 387 rfl rfl
set_option maxRecDepth 100000 in
theorem tw_388 : (Jvm.Cond.selects "BakeHouse$Shelf" ({ cls := "BakeHouse$Shelf", name := "has", desc := "(I)Z" } : Jvm.MethodName) ({ cls := "BakeHouse$Shelf", name := "has", desc := "(I)Z" } : Jvm.MethodName)) ∈ tg := tgT 388 rfl rfl
set_option maxRecDepth 100000 in
theorem tw_389 : (Jvm.Cond.code ({ cls := "BakeHouse$Shelf", name := "has", desc := "(I)Z" } : Jvm.MethodName) prog_9_method_5_code (2 : Nat) (Option.some Jvm.ClassFile.FieldType.boolean)) ∈ tg := tgT 389 rfl rfl
set_option maxRecDepth 100000 in
theorem tw_390 : (Jvm.Cond.methodLink "BakeHouseLaw" (91 : Nat) ({ cls := "BakeHouse", name := "night", desc := "(I)I" } : Jvm.MethodName)) ∈ tg := tgT 390 rfl rfl
set_option maxRecDepth 100000 in
theorem tw_391 : (Jvm.Cond.instanceMethod ({ cls := "BakeHouse", name := "night", desc := "(I)I" } : Jvm.MethodName)) ∈ tg := tgT 391 rfl rfl
set_option maxRecDepth 100000 in
theorem tw_392 : (Jvm.Cond.selects "BakeHouse" ({ cls := "BakeHouse", name := "night", desc := "(I)I" } : Jvm.MethodName) ({ cls := "BakeHouse", name := "night", desc := "(I)I" } : Jvm.MethodName)) ∈ tg := tgT 392 rfl rfl
set_option maxRecDepth 100000 in
theorem tw_393 : (Jvm.Cond.code ({ cls := "BakeHouse", name := "night", desc := "(I)I" } : Jvm.MethodName) prog_1_method_13_code (5 : Nat) (Option.some Jvm.ClassFile.FieldType.int)) ∈ tg := tgT 393 rfl rfl
set_option maxRecDepth 100000 in
theorem tw_394 : (Jvm.Cond.methodLink "BakeHouse" (105 : Nat) ({ cls := "BakeHouse", name := "fallsAtRest", desc := "(LBakeHouse$Dough;I)Z" } : Jvm.MethodName)) ∈ tg := tgT 394 rfl rfl
set_option maxRecDepth 100000 in
theorem tw_395 : (Jvm.Cond.static ({ cls := "BakeHouse", name := "fallsAtRest", desc := "(LBakeHouse$Dough;I)Z" } : Jvm.MethodName)) ∈ tg := tgT 395 rfl rfl
set_option maxRecDepth 100000 in
theorem tw_396 : (Jvm.Cond.codeWith ({ cls := "BakeHouse", name := "fallsAtRest", desc := "(LBakeHouse$Dough;I)Z" } : Jvm.MethodName) prog_1_method_25_code (3 : Nat) (Option.some Jvm.ClassFile.FieldType.boolean) [((0 : Nat), (7 : Nat), (8 : Nat), (172 : Nat))]) ∈ tg := tgT 396 rfl rfl
set_option maxRecDepth 100000 in
theorem tw_397 : (Jvm.Cond.classLink "BakeHouse" (172 : Nat) "java/lang/IllegalStateException") ∈ tg := tgT 397 rfl rfl
set_option maxRecDepth 100000 in
theorem tw_398 : (Jvm.Cond.methodLink "BakeHouse" (67 : Nat) ({ cls := "BakeHouse$Dough", name := "doRest", desc := "(I)I" } : Jvm.MethodName)) ∈ tg := tgT 398 rfl rfl
set_option maxRecDepth 100000 in
theorem tw_399 : (Jvm.Cond.instanceMethod ({ cls := "BakeHouse$Dough", name := "doRest", desc := "(I)I" } : Jvm.MethodName)) ∈ tg := tgT 399 rfl rfl
set_option maxRecDepth 100000 in
theorem tw_400 : (Jvm.Cond.selects "BakeHouse$Dough" ({ cls := "BakeHouse$Dough", name := "doRest", desc := "(I)I" } : Jvm.MethodName) ({ cls := "BakeHouse$Dough", name := "doRest", desc := "(I)I" } : Jvm.MethodName)) ∈ tg := tgT 400 rfl rfl
set_option maxRecDepth 100000 in
theorem tw_401 : (Jvm.Cond.sameMethod "BakeHouse$Dough" "BakeHouse$Dough" "doRest" "(I)I") ∈ tg := tgT 401 rfl rfl
set_option maxRecDepth 100000 in
theorem tw_402 : (Jvm.Cond.selects "BakeHouse$Brioche" ({ cls := "BakeHouse$Dough", name := "doRest", desc := "(I)I" } : Jvm.MethodName) ({ cls := "BakeHouse$Brioche", name := "doRest", desc := "(I)I" } : Jvm.MethodName)) ∈ tg := tgT 402 rfl rfl
set_option maxRecDepth 100000 in
theorem tw_403 : (Jvm.Cond.instanceMethod ({ cls := "BakeHouse$Brioche", name := "doRest", desc := "(I)I" } : Jvm.MethodName)) ∈ tg := tgT 403 rfl rfl
set_option maxRecDepth 100000 in
theorem tw_404 : (Jvm.Cond.code ({ cls := "BakeHouse$Brioche", name := "doRest", desc := "(I)I" } : Jvm.MethodName) prog_3_method_2_code (3 : Nat) (Option.some Jvm.ClassFile.FieldType.int)) ∈ tg := tgT 404 rfl rfl
set_option maxRecDepth 100000 in
theorem tw_405 : (Jvm.Cond.methodLink "BakeHouse$Brioche" (15 : Nat) ({ cls := "BakeHouse$Book", name := "begin", desc := "(II)V" } : Jvm.MethodName)) ∈ tg := tgT 405 rfl rfl
set_option maxRecDepth 100000 in
theorem tw_406 : (Jvm.Cond.methodLink "BakeHouse$Brioche" (21 : Nat) ({ cls := "BakeHouse$Sweet", name := "doRest", desc := "(I)I" } : Jvm.MethodName)) ∈ tg := tgT 406 rfl rfl
set_option maxRecDepth 100000 in
theorem tw_407 : (Jvm.Cond.sameMethod "BakeHouse$Sweet" "BakeHouse$Dough" "doRest" "(I)I") ∈ tg := tgT 407 rfl rfl
set_option maxRecDepth 100000 in
theorem tw_409 : (Jvm.Cond.classLink "BakeHouse$Brioche" (32 : Nat) "java/lang/IllegalStateException") ∈ tg := tgT 409 rfl rfl
set_option maxRecDepth 100000 in
theorem tw_410 : (Jvm.Cond.instantiable "java/lang/IllegalStateException" (6 : Nat)) ∈ tg := tgT 410 rfl rfl
set_option maxRecDepth 100000 in
theorem tw_418 : (Jvm.Cond.selects "java/lang/IllegalStateException" ({ cls := "java/lang/Throwable", name := "fillInStackTrace", desc := "(I)Ljava/lang/Throwable;" } : Jvm.MethodName) ({ cls := "java/lang/Throwable", name := "fillInStackTrace", desc := "(I)Ljava/lang/Throwable;" } : Jvm.MethodName)) ∈ tg := tgT 418 rfl rfl
set_option maxRecDepth 100000 in
theorem tw_419 : (Jvm.Cond.selects "java/lang/IllegalStateException" ({ cls := "java/lang/Throwable", name := "fillInStackTrace", desc := "()Ljava/lang/Throwable;" } : Jvm.MethodName) ({ cls := "java/lang/Throwable", name := "fillInStackTrace", desc := "()Ljava/lang/Throwable;" } : Jvm.MethodName)) ∈ tg := tgT 419 rfl rfl
set_option maxRecDepth 100000 in
theorem tw_420 : (Jvm.Cond.lays "java/lang/IllegalStateException" "java/lang/Throwable" "cause" "Ljava/lang/Throwable;") ∈ tg := tgT 420 rfl rfl
set_option maxRecDepth 100000 in
theorem tw_421 : (Jvm.Cond.lays "java/lang/Throwable" "java/lang/Throwable" "cause" "Ljava/lang/Throwable;") ∈ tg := tgT 421 rfl rfl
set_option maxRecDepth 100000 in
theorem tw_422 : (Jvm.Cond.lays "java/lang/IllegalStateException" "java/lang/Throwable" "stackTrace" "[Ljava/lang/StackTraceElement;") ∈ tg := tgT 422 rfl rfl
set_option maxRecDepth 100000 in
theorem tw_423 : (Jvm.Cond.lays "java/lang/Throwable" "java/lang/Throwable" "stackTrace" "[Ljava/lang/StackTraceElement;") ∈ tg := tgT 423 rfl rfl
set_option maxRecDepth 100000 in
theorem tw_424 : (Jvm.Cond.lays "java/lang/IllegalStateException" "java/lang/Throwable" "suppressedExceptions" "Ljava/util/List;") ∈ tg := tgT 424 rfl rfl
set_option maxRecDepth 100000 in
theorem tw_425 : (Jvm.Cond.lays "java/lang/Throwable" "java/lang/Throwable" "suppressedExceptions" "Ljava/util/List;") ∈ tg := tgT 425 rfl rfl
set_option maxRecDepth 100000 in
theorem tw_426 : (Jvm.Cond.lays "java/lang/IllegalStateException" "java/lang/Throwable" "detailMessage" "Ljava/lang/String;") ∈ tg := tgT 426 rfl rfl
set_option maxRecDepth 100000 in
theorem tw_427 : (Jvm.Cond.lays "java/lang/Throwable" "java/lang/Throwable" "detailMessage" "Ljava/lang/String;") ∈ tg := tgT 427 rfl rfl
set_option maxRecDepth 100000 in
theorem tw_428 : (Jvm.Cond.lays "java/lang/IllegalStateException" "java/lang/Throwable" "backtrace" "Ljava/lang/Object;") ∈ tg := tgT 428 rfl rfl
set_option maxRecDepth 100000 in
theorem tw_429 : (Jvm.Cond.lays "java/lang/Throwable" "java/lang/Throwable" "backtrace" "Ljava/lang/Object;") ∈ tg := tgT 429 rfl rfl
set_option maxRecDepth 100000 in
theorem tw_430 : (Jvm.Cond.fieldLink "java/lang/Throwable" (198 : Nat) "java/lang/Throwable" "backtrace" "Ljava/lang/Object;") ∈ tg := tgT 430 rfl rfl
set_option maxRecDepth 100000 in
theorem tw_431 : (Jvm.Cond.superclass "java/lang/Throwable" "java/lang/Object") ∈ tg := tgT 431 rfl rfl
set_option maxRecDepth 100000 in
theorem tw_432 : (Jvm.Cond.instanceMethod ({ cls := "java/lang/Throwable", name := "<init>", desc := "()V" } : Jvm.MethodName)) ∈ tg := tgT 432 rfl rfl
set_option maxRecDepth 100000 in
theorem tw_433 : (Jvm.Cond.code ({ cls := "java/lang/Throwable", name := "<init>", desc := "()V" } : Jvm.MethodName) prog_24_method_1_code (1 : Nat) (Option.none : Option Jvm.ClassFile.FieldType)) ∈ tg := tgT 433 rfl rfl
set_option maxRecDepth 100000 in
theorem tw_434 : (Jvm.Cond.methodLink "java/lang/Throwable" (1 : Nat) ({ cls := "java/lang/Object", name := "<init>", desc := "()V" } : Jvm.MethodName)) ∈ tg := tgT 434 rfl rfl
set_option maxRecDepth 100000 in
theorem tw_435 : (Jvm.Cond.fieldLink "java/lang/Throwable" (13 : Nat) "java/lang/Throwable" "UNASSIGNED_STACK" "[Ljava/lang/StackTraceElement;") ∈ tg := tgT 435 rfl rfl
set_option maxRecDepth 100000 in
theorem tw_437 : (Jvm.Cond.fieldLink "java/lang/Throwable" (20 : Nat) "java/lang/Throwable" "SUPPRESSED_SENTINEL" "Ljava/util/List;") ∈ tg := tgT 437 rfl rfl
set_option maxRecDepth 100000 in
theorem tw_439 : (Jvm.Cond.methodLink "java/lang/Throwable" (27 : Nat) ({ cls := "java/lang/Throwable", name := "fillInStackTrace", desc := "()Ljava/lang/Throwable;" } : Jvm.MethodName)) ∈ tg := tgT 439 rfl rfl
set_option maxRecDepth 100000 in
theorem tw_440 : (Jvm.Cond.instanceMethod ({ cls := "java/lang/Throwable", name := "fillInStackTrace", desc := "()Ljava/lang/Throwable;" } : Jvm.MethodName)) ∈ tg := tgT 440 rfl rfl
set_option maxRecDepth 100000 in
theorem tw_441 : (Jvm.Cond.sameMethod "java/lang/Throwable" "java/lang/Throwable" "fillInStackTrace" "()Ljava/lang/Throwable;") ∈ tg := tgT 441 rfl rfl
set_option maxRecDepth 100000 in
theorem tw_442 : (Jvm.Cond.selects "java/lang/ArithmeticException" ({ cls := "java/lang/Throwable", name := "fillInStackTrace", desc := "()Ljava/lang/Throwable;" } : Jvm.MethodName) ({ cls := "java/lang/Throwable", name := "fillInStackTrace", desc := "()Ljava/lang/Throwable;" } : Jvm.MethodName)) ∈ tg := tgT 442 rfl rfl
set_option maxRecDepth 100000 in
theorem tw_443 : (Jvm.Cond.selects "java/lang/ArrayIndexOutOfBoundsException" ({ cls := "java/lang/Throwable", name := "fillInStackTrace", desc := "()Ljava/lang/Throwable;" } : Jvm.MethodName) ({ cls := "java/lang/Throwable", name := "fillInStackTrace", desc := "()Ljava/lang/Throwable;" } : Jvm.MethodName)) ∈ tg := tgT 443 rfl rfl
set_option maxRecDepth 100000 in
theorem tw_444 : (Jvm.Cond.selects "java/lang/NegativeArraySizeException" ({ cls := "java/lang/Throwable", name := "fillInStackTrace", desc := "()Ljava/lang/Throwable;" } : Jvm.MethodName) ({ cls := "java/lang/Throwable", name := "fillInStackTrace", desc := "()Ljava/lang/Throwable;" } : Jvm.MethodName)) ∈ tg := tgT 444 rfl rfl
set_option maxRecDepth 100000 in
theorem tw_445 : (Jvm.Cond.selects "java/lang/NullPointerException" ({ cls := "java/lang/Throwable", name := "fillInStackTrace", desc := "()Ljava/lang/Throwable;" } : Jvm.MethodName) ({ cls := "java/lang/NullPointerException", name := "fillInStackTrace", desc := "()Ljava/lang/Throwable;" } : Jvm.MethodName)) ∈ tg := tgT 445 rfl rfl
set_option maxRecDepth 100000 in
theorem tw_446 : (Jvm.Cond.instanceMethod ({ cls := "java/lang/NullPointerException", name := "fillInStackTrace", desc := "()Ljava/lang/Throwable;" } : Jvm.MethodName)) ∈ tg := tgT 446 rfl rfl
set_option maxRecDepth 100000 in
theorem tw_447 : (Jvm.Cond.codeSync ({ cls := "java/lang/NullPointerException", name := "fillInStackTrace", desc := "()Ljava/lang/Throwable;" } : Jvm.MethodName) prog_21_method_3_code (1 : Nat) (Option.some (Jvm.ClassFile.FieldType.object "java/lang/Throwable"))) ∈ tg := tgT 447 rfl rfl
set_option maxRecDepth 100000 in
theorem tw_448 : (Jvm.Cond.methodLink "java/lang/NullPointerException" (16 : Nat) ({ cls := "java/lang/NullPointerException", name := "getExtendedNPEMessage", desc := "()Ljava/lang/String;" } : Jvm.MethodName)) ∈ tg := tgT 448 rfl rfl
set_option maxRecDepth 100000 in
theorem tw_450 : (Jvm.Cond.instanceMethod ({ cls := "java/lang/NullPointerException", name := "getExtendedNPEMessage", desc := "()Ljava/lang/String;" } : Jvm.MethodName)) ∈ tg := tgT 450 rfl rfl
set_option maxRecDepth 100000 in
theorem tw_451 : (Jvm.Cond.instantiable "java/lang/NullPointerException" (8 : Nat)) ∈ tg := tgT 451 rfl rfl
set_option maxRecDepth 100000 in
theorem tw_452 : (Jvm.Cond.native ({ cls := "java/lang/NullPointerException", name := "getExtendedNPEMessage", desc := "()Ljava/lang/String;" } : Jvm.MethodName)) ∈ tg := tgT 452 rfl rfl
set_option maxRecDepth 100000 in
theorem tw_453 : (Jvm.Cond.methodLink "java/lang/NullPointerException" (24 : Nat) ({ cls := "java/lang/RuntimeException", name := "fillInStackTrace", desc := "()Ljava/lang/Throwable;" } : Jvm.MethodName)) ∈ tg := tgT 453 rfl rfl
set_option maxRecDepth 100000 in
theorem tw_454 : (Jvm.Cond.sameMethod "java/lang/RuntimeException" "java/lang/Throwable" "fillInStackTrace" "()Ljava/lang/Throwable;") ∈ tg := tgT 454 rfl rfl
set_option maxRecDepth 100000 in
theorem tw_456 : (Jvm.Cond.codeSync ({ cls := "java/lang/Throwable", name := "fillInStackTrace", desc := "()Ljava/lang/Throwable;" } : Jvm.MethodName) prog_24_method_18_code (1 : Nat) (Option.some (Jvm.ClassFile.FieldType.object "java/lang/Throwable"))) ∈ tg := tgT 456 rfl rfl
set_option maxRecDepth 100000 in
theorem tw_457 : (Jvm.Cond.methodLink "java/lang/Throwable" (202 : Nat) ({ cls := "java/lang/Throwable", name := "fillInStackTrace", desc := "(I)Ljava/lang/Throwable;" } : Jvm.MethodName)) ∈ tg := tgT 457 rfl rfl
set_option maxRecDepth 100000 in
theorem tw_459 : (Jvm.Cond.instanceMethod ({ cls := "java/lang/Throwable", name := "fillInStackTrace", desc := "(I)Ljava/lang/Throwable;" } : Jvm.MethodName)) ∈ tg := tgT 459 rfl rfl
set_option maxRecDepth 100000 in
theorem tw_460 : (Jvm.Cond.instantiable "java/lang/Throwable" (6 : Nat)) ∈ tg := tgT 460 rfl rfl
set_option maxRecDepth 100000 in
theorem tw_461 : (Jvm.Cond.native ({ cls := "java/lang/Throwable", name := "fillInStackTrace", desc := "(I)Ljava/lang/Throwable;" } : Jvm.MethodName)) ∈ tg := tgT 461 rfl rfl
set_option maxRecDepth 100000 in
theorem tw_463 : (Jvm.Cond.methodLink "BakeHouse$Brioche" (36 : Nat) ({ cls := "java/lang/IllegalStateException", name := "<init>", desc := "(Ljava/lang/String;)V" } : Jvm.MethodName)) ∈ tg := tgT 463 rfl rfl
set_option maxRecDepth 100000 in
theorem tw_464 : (Jvm.Cond.instanceMethod ({ cls := "java/lang/IllegalStateException", name := "<init>", desc := "(Ljava/lang/String;)V" } : Jvm.MethodName)) ∈ tg := tgT 464 rfl rfl
set_option maxRecDepth 100000 in
theorem tw_465 : (Jvm.Cond.code ({ cls := "java/lang/IllegalStateException", name := "<init>", desc := "(Ljava/lang/String;)V" } : Jvm.MethodName) prog_17_method_2_code (2 : Nat) (Option.none : Option Jvm.ClassFile.FieldType)) ∈ tg := tgT 465 rfl rfl
set_option maxRecDepth 100000 in
theorem tw_466 : (Jvm.Cond.methodLink "java/lang/IllegalStateException" (7 : Nat) ({ cls := "java/lang/RuntimeException", name := "<init>", desc := "(Ljava/lang/String;)V" } : Jvm.MethodName)) ∈ tg := tgT 466 rfl rfl
set_option maxRecDepth 100000 in
theorem tw_467 : (Jvm.Cond.instanceMethod ({ cls := "java/lang/RuntimeException", name := "<init>", desc := "(Ljava/lang/String;)V" } : Jvm.MethodName)) ∈ tg := tgT 467 rfl rfl
set_option maxRecDepth 100000 in
theorem tw_468 : (Jvm.Cond.code ({ cls := "java/lang/RuntimeException", name := "<init>", desc := "(Ljava/lang/String;)V" } : Jvm.MethodName) prog_22_method_2_code (2 : Nat) (Option.none : Option Jvm.ClassFile.FieldType)) ∈ tg := tgT 468 rfl rfl
set_option maxRecDepth 100000 in
theorem tw_469 : (Jvm.Cond.methodLink "java/lang/RuntimeException" (7 : Nat) ({ cls := "java/lang/Exception", name := "<init>", desc := "(Ljava/lang/String;)V" } : Jvm.MethodName)) ∈ tg := tgT 469 rfl rfl
set_option maxRecDepth 100000 in
theorem tw_470 : (Jvm.Cond.instanceMethod ({ cls := "java/lang/Exception", name := "<init>", desc := "(Ljava/lang/String;)V" } : Jvm.MethodName)) ∈ tg := tgT 470 rfl rfl
set_option maxRecDepth 100000 in
theorem tw_471 : (Jvm.Cond.code ({ cls := "java/lang/Exception", name := "<init>", desc := "(Ljava/lang/String;)V" } : Jvm.MethodName) prog_16_method_2_code (2 : Nat) (Option.none : Option Jvm.ClassFile.FieldType)) ∈ tg := tgT 471 rfl rfl
set_option maxRecDepth 100000 in
theorem tw_472 : (Jvm.Cond.methodLink "java/lang/Exception" (7 : Nat) ({ cls := "java/lang/Throwable", name := "<init>", desc := "(Ljava/lang/String;)V" } : Jvm.MethodName)) ∈ tg := tgT 472 rfl rfl
set_option maxRecDepth 100000 in
theorem tw_473 : (Jvm.Cond.instanceMethod ({ cls := "java/lang/Throwable", name := "<init>", desc := "(Ljava/lang/String;)V" } : Jvm.MethodName)) ∈ tg := tgT 473 rfl rfl
set_option maxRecDepth 100000 in
theorem tw_474 : (Jvm.Cond.code ({ cls := "java/lang/Throwable", name := "<init>", desc := "(Ljava/lang/String;)V" } : Jvm.MethodName) prog_24_method_2_code (2 : Nat) (Option.none : Option Jvm.ClassFile.FieldType)) ∈ tg := tgT 474 rfl rfl
set_option maxRecDepth 100000 in
theorem tw_475 : (Jvm.Cond.fieldLink "java/lang/Throwable" (198 : Nat) "java/lang/Throwable" "backtrace" "Ljava/lang/Object;") ∈ tg := tgT 475 rfl rfl
set_option maxRecDepth 100000 in
theorem tw_476 : (Jvm.Cond.fieldLink "java/lang/Throwable" (31 : Nat) "java/lang/Throwable" "detailMessage" "Ljava/lang/String;") ∈ tg := tgT 476 rfl rfl
set_option maxRecDepth 100000 in
theorem tw_477 : (Jvm.Cond.fieldLink "java/lang/Throwable" (7 : Nat) "java/lang/Throwable" "cause" "Ljava/lang/Throwable;") ∈ tg := tgT 477 rfl rfl
set_option maxRecDepth 100000 in
theorem tw_478 : (Jvm.Cond.fieldLink "java/lang/Throwable" (17 : Nat) "java/lang/Throwable" "stackTrace" "[Ljava/lang/StackTraceElement;") ∈ tg := tgT 478 rfl rfl
set_option maxRecDepth 100000 in
theorem tw_479 : (Jvm.Cond.fieldLink "java/lang/Throwable" (24 : Nat) "java/lang/Throwable" "suppressedExceptions" "Ljava/util/List;") ∈ tg := tgT 479 rfl rfl
set_option maxRecDepth 100000 in
theorem tw_480 : (Jvm.Cond.soleField "java/lang/Throwable" "backtrace") ∈ tg := tgT 480 rfl rfl
set_option maxRecDepth 100000 in
theorem tw_481 : (Jvm.Cond.soleField "java/lang/Throwable" "detailMessage") ∈ tg := tgT 481 rfl rfl
set_option maxRecDepth 100000 in
theorem tw_482 : (Jvm.Cond.soleField "java/lang/Throwable" "cause") ∈ tg := tgT 482 rfl rfl
set_option maxRecDepth 100000 in
theorem tw_483 : (Jvm.Cond.soleField "java/lang/Throwable" "stackTrace") ∈ tg := tgT 483 rfl rfl
set_option maxRecDepth 100000 in
theorem tw_484 : (Jvm.Cond.lays "java/lang/IllegalStateException" "java/lang/Throwable" "depth" "I") ∈ tg := tgT 484 rfl rfl
set_option maxRecDepth 100000 in
theorem tw_485 : (Jvm.Cond.soleField "java/lang/Throwable" "depth") ∈ tg := tgT 485 rfl rfl
set_option maxRecDepth 100000 in
theorem tw_486 : (Jvm.Cond.soleField "java/lang/Throwable" "suppressedExceptions") ∈ tg := tgT 486 rfl rfl
set_option maxRecDepth 100000 in
theorem tw_487 : (Jvm.Cond.superclass "java/lang/IllegalStateException" "java/lang/RuntimeException") ∈ tg := tgT 487 rfl rfl
set_option maxRecDepth 100000 in
theorem tw_488 : (Jvm.Cond.arrayClass Jvm.ClassFile.FieldType.byte) ∈ tg := tgT 488 rfl rfl
set_option maxRecDepth 100000 in
theorem tw_489 : (Jvm.Cond.selects "BakeHouse$Flat" ({ cls := "BakeHouse$Dough", name := "doRest", desc := "(I)I" } : Jvm.MethodName) ({ cls := "BakeHouse$Dough", name := "doRest", desc := "(I)I" } : Jvm.MethodName)) ∈ tg := tgT 489 rfl rfl
set_option maxRecDepth 100000 in
theorem tw_490 : (Jvm.Cond.selects "BakeHouse$Leavened" ({ cls := "BakeHouse$Dough", name := "doRest", desc := "(I)I" } : Jvm.MethodName) ({ cls := "BakeHouse$Dough", name := "doRest", desc := "(I)I" } : Jvm.MethodName)) ∈ tg := tgT 490 rfl rfl
set_option maxRecDepth 100000 in
theorem tw_491 : (Jvm.Cond.selects "BakeHouse$Levain" ({ cls := "BakeHouse$Dough", name := "doRest", desc := "(I)I" } : Jvm.MethodName) ({ cls := "BakeHouse$Levain", name := "doRest", desc := "(I)I" } : Jvm.MethodName)) ∈ tg := tgT 491 rfl rfl
set_option maxRecDepth 100000 in
theorem tw_492 : (Jvm.Cond.instanceMethod ({ cls := "BakeHouse$Levain", name := "doRest", desc := "(I)I" } : Jvm.MethodName)) ∈ tg := tgT 492 rfl rfl
set_option maxRecDepth 100000 in
theorem tw_493 : (Jvm.Cond.code ({ cls := "BakeHouse$Levain", name := "doRest", desc := "(I)I" } : Jvm.MethodName) prog_7_method_2_code (2 : Nat) (Option.some Jvm.ClassFile.FieldType.int)) ∈ tg := tgT 493 rfl rfl
set_option maxRecDepth 100000 in
theorem tw_494 : (Jvm.Cond.methodLink "BakeHouse$Levain" (15 : Nat) ({ cls := "BakeHouse$Book", name := "begin", desc := "(II)V" } : Jvm.MethodName)) ∈ tg := tgT 494 rfl rfl
set_option maxRecDepth 100000 in
theorem tw_495 : (Jvm.Cond.methodLink "BakeHouse$Levain" (25 : Nat) ({ cls := "BakeHouse$Sour", name := "doRest", desc := "(I)I" } : Jvm.MethodName)) ∈ tg := tgT 495 rfl rfl
set_option maxRecDepth 100000 in
theorem tw_496 : (Jvm.Cond.instanceMethod ({ cls := "BakeHouse$Sour", name := "doRest", desc := "(I)I" } : Jvm.MethodName)) ∈ tg := tgT 496 rfl rfl
set_option maxRecDepth 100000 in
theorem tw_497 : (Jvm.Cond.code ({ cls := "BakeHouse$Sour", name := "doRest", desc := "(I)I" } : Jvm.MethodName) prog_10_method_2_code (2 : Nat) (Option.some Jvm.ClassFile.FieldType.int)) ∈ tg := tgT 497 rfl rfl
set_option maxRecDepth 100000 in
theorem tw_498 : (Jvm.Cond.methodLink "BakeHouse$Sour" (25 : Nat) ({ cls := "BakeHouse$Rye", name := "doRest", desc := "(I)I" } : Jvm.MethodName)) ∈ tg := tgT 498 rfl rfl
set_option maxRecDepth 100000 in
theorem tw_499 : (Jvm.Cond.instanceMethod ({ cls := "BakeHouse$Rye", name := "doRest", desc := "(I)I" } : Jvm.MethodName)) ∈ tg := tgT 499 rfl rfl
set_option maxRecDepth 100000 in
theorem tw_500 : (Jvm.Cond.code ({ cls := "BakeHouse$Rye", name := "doRest", desc := "(I)I" } : Jvm.MethodName) prog_8_method_2_code (2 : Nat) (Option.some Jvm.ClassFile.FieldType.int)) ∈ tg := tgT 500 rfl rfl
set_option maxRecDepth 100000 in
theorem tw_501 : (Jvm.Cond.methodLink "BakeHouse$Rye" (21 : Nat) ({ cls := "BakeHouse$Leavened", name := "doRest", desc := "(I)I" } : Jvm.MethodName)) ∈ tg := tgT 501 rfl rfl
set_option maxRecDepth 100000 in
theorem tw_502 : (Jvm.Cond.sameMethod "BakeHouse$Leavened" "BakeHouse$Dough" "doRest" "(I)I") ∈ tg := tgT 502 rfl rfl
set_option maxRecDepth 100000 in
theorem tw_503 : (Jvm.Cond.selects "BakeHouse$Rye" ({ cls := "BakeHouse$Dough", name := "doRest", desc := "(I)I" } : Jvm.MethodName) ({ cls := "BakeHouse$Rye", name := "doRest", desc := "(I)I" } : Jvm.MethodName)) ∈ tg := tgT 503 rfl rfl
set_option maxRecDepth 100000 in
theorem tw_504 : (Jvm.Cond.selects "BakeHouse$Sour" ({ cls := "BakeHouse$Dough", name := "doRest", desc := "(I)I" } : Jvm.MethodName) ({ cls := "BakeHouse$Sour", name := "doRest", desc := "(I)I" } : Jvm.MethodName)) ∈ tg := tgT 504 rfl rfl
set_option maxRecDepth 100000 in
theorem tw_505 : (Jvm.Cond.selects "BakeHouse$Sweet" ({ cls := "BakeHouse$Dough", name := "doRest", desc := "(I)I" } : Jvm.MethodName) ({ cls := "BakeHouse$Dough", name := "doRest", desc := "(I)I" } : Jvm.MethodName)) ∈ tg := tgT 505 rfl rfl
set_option maxRecDepth 100000 in
theorem tw_506 : (Jvm.Cond.code ({ cls := "BakeHouse$Dough", name := "doRest", desc := "(I)I" } : Jvm.MethodName) prog_4_method_2_code (2 : Nat) (Option.some Jvm.ClassFile.FieldType.int)) ∈ tg := tgT 506 rfl rfl
set_option maxRecDepth 100000 in
theorem tw_507 : (Jvm.Cond.methodLink "BakeHouse$Dough" (43 : Nat) ({ cls := "java/lang/Math", name := "min", desc := "(II)I" } : Jvm.MethodName)) ∈ tg := tgT 507 rfl rfl
set_option maxRecDepth 100000 in
theorem tw_508 : (Jvm.Cond.static ({ cls := "java/lang/Math", name := "min", desc := "(II)I" } : Jvm.MethodName)) ∈ tg := tgT 508 rfl rfl
set_option maxRecDepth 100000 in
theorem tw_509 : (Jvm.Cond.code ({ cls := "java/lang/Math", name := "min", desc := "(II)I" } : Jvm.MethodName) prog_19_method_69_code (2 : Nat) (Option.some Jvm.ClassFile.FieldType.int)) ∈ tg := tgT 509 rfl rfl
set_option maxRecDepth 100000 in
theorem tw_510 : (Jvm.Cond.methodLink "BakeHouseLaw" (95 : Nat) ({ cls := "BakeHouse", name := "at", desc := "(II)I" } : Jvm.MethodName)) ∈ tg := tgT 510 rfl rfl
set_option maxRecDepth 100000 in
theorem tw_511 : (Jvm.Cond.instanceMethod ({ cls := "BakeHouse", name := "at", desc := "(II)I" } : Jvm.MethodName)) ∈ tg := tgT 511 rfl rfl
set_option maxRecDepth 100000 in
theorem tw_512 : (Jvm.Cond.selects "BakeHouse" ({ cls := "BakeHouse", name := "at", desc := "(II)I" } : Jvm.MethodName) ({ cls := "BakeHouse", name := "at", desc := "(II)I" } : Jvm.MethodName)) ∈ tg := tgT 512 rfl rfl
set_option maxRecDepth 100000 in
theorem tw_513 : (Jvm.Cond.code ({ cls := "BakeHouse", name := "at", desc := "(II)I" } : Jvm.MethodName) prog_1_method_14_code (4 : Nat) (Option.some Jvm.ClassFile.FieldType.int)) ∈ tg := tgT 513 rfl rfl
set_option maxRecDepth 100000 in
theorem tw_514 : (Jvm.Cond.methodLink "BakeHouseLaw" (99 : Nat) ({ cls := "BakeHouse", name := "places", desc := "(I)I" } : Jvm.MethodName)) ∈ tg := tgT 514 rfl rfl
set_option maxRecDepth 100000 in
theorem tw_515 : (Jvm.Cond.instanceMethod ({ cls := "BakeHouse", name := "places", desc := "(I)I" } : Jvm.MethodName)) ∈ tg := tgT 515 rfl rfl
set_option maxRecDepth 100000 in
theorem tw_516 : (Jvm.Cond.selects "BakeHouse" ({ cls := "BakeHouse", name := "places", desc := "(I)I" } : Jvm.MethodName) ({ cls := "BakeHouse", name := "places", desc := "(I)I" } : Jvm.MethodName)) ∈ tg := tgT 516 rfl rfl
set_option maxRecDepth 100000 in
theorem tw_517 : (Jvm.Cond.code ({ cls := "BakeHouse", name := "places", desc := "(I)I" } : Jvm.MethodName) prog_1_method_15_code (3 : Nat) (Option.some Jvm.ClassFile.FieldType.int)) ∈ tg := tgT 517 rfl rfl
set_option maxRecDepth 100000 in
theorem tw_518 : (Jvm.Cond.methodLink "BakeHouseLaw" (103 : Nat) ({ cls := "BakeHouse", name := "tell", desc := "(II)I" } : Jvm.MethodName)) ∈ tg := tgT 518 rfl rfl
set_option maxRecDepth 100000 in
theorem tw_519 : (Jvm.Cond.instanceMethod ({ cls := "BakeHouse", name := "tell", desc := "(II)I" } : Jvm.MethodName)) ∈ tg := tgT 519 rfl rfl
set_option maxRecDepth 100000 in
theorem tw_520 : (Jvm.Cond.selects "BakeHouse" ({ cls := "BakeHouse", name := "tell", desc := "(II)I" } : Jvm.MethodName) ({ cls := "BakeHouse", name := "tell", desc := "(II)I" } : Jvm.MethodName)) ∈ tg := tgT 520 rfl rfl
set_option maxRecDepth 100000 in
theorem tw_521 : (Jvm.Cond.code ({ cls := "BakeHouse", name := "tell", desc := "(II)I" } : Jvm.MethodName) prog_1_method_16_code (4 : Nat) (Option.some Jvm.ClassFile.FieldType.int)) ∈ tg := tgT 521 rfl rfl
set_option maxRecDepth 100000 in
theorem tw_522 : (Jvm.Cond.methodLink "BakeHouseLaw" (107 : Nat) ({ cls := "BakeHouse", name := "book", desc := "(I)I" } : Jvm.MethodName)) ∈ tg := tgT 522 rfl rfl
set_option maxRecDepth 100000 in
theorem tw_523 : (Jvm.Cond.instanceMethod ({ cls := "BakeHouse", name := "book", desc := "(I)I" } : Jvm.MethodName)) ∈ tg := tgT 523 rfl rfl
set_option maxRecDepth 100000 in
theorem tw_524 : (Jvm.Cond.selects "BakeHouse" ({ cls := "BakeHouse", name := "book", desc := "(I)I" } : Jvm.MethodName) ({ cls := "BakeHouse", name := "book", desc := "(I)I" } : Jvm.MethodName)) ∈ tg := tgT 524 rfl rfl
set_option maxRecDepth 100000 in
theorem tw_525 : (Jvm.Cond.code ({ cls := "BakeHouse", name := "book", desc := "(I)I" } : Jvm.MethodName) prog_1_method_17_code (2 : Nat) (Option.some Jvm.ClassFile.FieldType.int)) ∈ tg := tgT 525 rfl rfl
set_option maxRecDepth 100000 in
theorem tw_526 : (Jvm.Cond.methodLink "BakeHouse" (130 : Nat) ({ cls := "BakeHouse$Book", name := "row", desc := "(I)I" } : Jvm.MethodName)) ∈ tg := tgT 526 rfl rfl
set_option maxRecDepth 100000 in
theorem tw_527 : (Jvm.Cond.instanceMethod ({ cls := "BakeHouse$Book", name := "row", desc := "(I)I" } : Jvm.MethodName)) ∈ tg := tgT 527 rfl rfl
set_option maxRecDepth 100000 in
theorem tw_528 : (Jvm.Cond.selects "BakeHouse$Book" ({ cls := "BakeHouse$Book", name := "row", desc := "(I)I" } : Jvm.MethodName) ({ cls := "BakeHouse$Book", name := "row", desc := "(I)I" } : Jvm.MethodName)) ∈ tg := tgT 528 rfl rfl
set_option maxRecDepth 100000 in
theorem tw_529 : (Jvm.Cond.code ({ cls := "BakeHouse$Book", name := "row", desc := "(I)I" } : Jvm.MethodName) prog_2_method_3_code (3 : Nat) (Option.some Jvm.ClassFile.FieldType.int)) ∈ tg := tgT 529 rfl rfl
set_option maxRecDepth 100000 in
theorem tw_531 : (Jvm.Cond.methodLink "BakeHouseLaw" (111 : Nat) ({ cls := "BakeHouse", name := "count", desc := "(I)I" } : Jvm.MethodName)) ∈ tg := tgT 531 rfl rfl
set_option maxRecDepth 100000 in
theorem tw_532 : (Jvm.Cond.instanceMethod ({ cls := "BakeHouse", name := "count", desc := "(I)I" } : Jvm.MethodName)) ∈ tg := tgT 532 rfl rfl
set_option maxRecDepth 100000 in
theorem tw_533 : (Jvm.Cond.selects "BakeHouse" ({ cls := "BakeHouse", name := "count", desc := "(I)I" } : Jvm.MethodName) ({ cls := "BakeHouse", name := "count", desc := "(I)I" } : Jvm.MethodName)) ∈ tg := tgT 533 rfl rfl
set_option maxRecDepth 100000 in
theorem tw_534 : (Jvm.Cond.code ({ cls := "BakeHouse", name := "count", desc := "(I)I" } : Jvm.MethodName) prog_1_method_18_code (2 : Nat) (Option.some Jvm.ClassFile.FieldType.int)) ∈ tg := tgT 534 rfl rfl
set_option maxRecDepth 100000 in
theorem tw_535 : (Jvm.Cond.methodLink "BakeHouseLaw" (48 : Nat) ({ cls := "BakeHouseLaw", name := "shelf", desc := "(LBakeHouse;II[J)I" } : Jvm.MethodName)) ∈ tg := tgT 535 rfl rfl
set_option maxRecDepth 100000 in
theorem tw_536 : (Jvm.Cond.static ({ cls := "BakeHouseLaw", name := "shelf", desc := "(LBakeHouse;II[J)I" } : Jvm.MethodName)) ∈ tg := tgT 536 rfl rfl
set_option maxRecDepth 100000 in
theorem tw_537 : (Jvm.Cond.codeWith ({ cls := "BakeHouseLaw", name := "shelf", desc := "(LBakeHouse;II[J)I" } : Jvm.MethodName) method_3_code (5 : Nat) (Option.some Jvm.ClassFile.FieldType.int) [((0 : Nat), (10 : Nat), (13 : Nat), (13 : Nat))]) ∈ tg := tgT 537 rfl rfl
set_option maxRecDepth 100000 in
theorem tw_538 : (Jvm.Cond.classLink "BakeHouseLaw" (13 : Nat) "java/lang/NegativeArraySizeException") ∈ tg := tgT 538 rfl rfl
set_option maxRecDepth 100000 in
theorem tw_539 : (Jvm.Cond.instantiable "java/lang/NegativeArraySizeException" (6 : Nat)) ∈ tg := tgT 539 rfl rfl
set_option maxRecDepth 100000 in
theorem tw_540 : (Jvm.Cond.instanceMethod ({ cls := "java/lang/NegativeArraySizeException", name := "<init>", desc := "(Ljava/lang/String;)V" } : Jvm.MethodName)) ∈ tg := tgT 540 rfl rfl
set_option maxRecDepth 100000 in
theorem tw_541 : (Jvm.Cond.code ({ cls := "java/lang/NegativeArraySizeException", name := "<init>", desc := "(Ljava/lang/String;)V" } : Jvm.MethodName) prog_20_method_2_code (2 : Nat) (Option.none : Option Jvm.ClassFile.FieldType)) ∈ tg := tgT 541 rfl rfl
set_option maxRecDepth 100000 in
theorem tw_542 : (Jvm.Cond.methodLink "java/lang/NegativeArraySizeException" (7 : Nat) ({ cls := "java/lang/RuntimeException", name := "<init>", desc := "(Ljava/lang/String;)V" } : Jvm.MethodName)) ∈ tg := tgT 542 rfl rfl
set_option maxRecDepth 100000 in
theorem tw_543 : (Jvm.Cond.lays "java/lang/NegativeArraySizeException" "java/lang/Throwable" "backtrace" "Ljava/lang/Object;") ∈ tg := tgT 543 rfl rfl
set_option maxRecDepth 100000 in
theorem tw_544 : (Jvm.Cond.lays "java/lang/NegativeArraySizeException" "java/lang/Throwable" "detailMessage" "Ljava/lang/String;") ∈ tg := tgT 544 rfl rfl
set_option maxRecDepth 100000 in
theorem tw_545 : (Jvm.Cond.lays "java/lang/NegativeArraySizeException" "java/lang/Throwable" "cause" "Ljava/lang/Throwable;") ∈ tg := tgT 545 rfl rfl
set_option maxRecDepth 100000 in
theorem tw_546 : (Jvm.Cond.lays "java/lang/NegativeArraySizeException" "java/lang/Throwable" "stackTrace" "[Ljava/lang/StackTraceElement;") ∈ tg := tgT 546 rfl rfl
set_option maxRecDepth 100000 in
theorem tw_547 : (Jvm.Cond.lays "java/lang/NegativeArraySizeException" "java/lang/Throwable" "depth" "I") ∈ tg := tgT 547 rfl rfl
set_option maxRecDepth 100000 in
theorem tw_548 : (Jvm.Cond.lays "java/lang/NegativeArraySizeException" "java/lang/Throwable" "suppressedExceptions" "Ljava/util/List;") ∈ tg := tgT 548 rfl rfl
set_option maxRecDepth 100000 in
theorem tw_549 : (Jvm.Cond.superclass "java/lang/NegativeArraySizeException" "java/lang/RuntimeException") ∈ tg := tgT 549 rfl rfl
set_option maxRecDepth 100000 in
theorem tw_551 : (Jvm.Cond.selects "java/lang/NegativeArraySizeException" ({ cls := "java/lang/Throwable", name := "fillInStackTrace", desc := "(I)Ljava/lang/Throwable;" } : Jvm.MethodName) ({ cls := "java/lang/Throwable", name := "fillInStackTrace", desc := "(I)Ljava/lang/Throwable;" } : Jvm.MethodName)) ∈ tg := tgT 551 rfl rfl
set_option maxRecDepth 100000 in
theorem tw_552 : (Jvm.Cond.instantiable "java/lang/String" (4 : Nat)) ∈ tg := tgT 552 rfl rfl
set_option maxRecDepth 100000 in
theorem tw_553 : (Jvm.Cond.laysFinal "java/lang/String" "java/lang/String" "value" "[B") ∈ tg := tgT 553 rfl rfl
set_option maxRecDepth 100000 in
theorem tw_554 : (Jvm.Cond.soleField "java/lang/String" "value") ∈ tg := tgT 554 rfl rfl
set_option maxRecDepth 100000 in
theorem tw_555 : (Jvm.Cond.laysFinal "java/lang/String" "java/lang/String" "coder" "B") ∈ tg := tgT 555 rfl rfl
set_option maxRecDepth 100000 in
theorem tw_556 : (Jvm.Cond.soleField "java/lang/String" "coder") ∈ tg := tgT 556 rfl rfl
set_option maxRecDepth 100000 in
theorem tw_557 : (Jvm.Cond.methodLink "BakeHouseLaw" (7 : Nat) ({ cls := "BakeHouse", name := "shelf", desc := "(II)I" } : Jvm.MethodName)) ∈ tg := tgT 557 rfl rfl
set_option maxRecDepth 100000 in
theorem tw_558 : (Jvm.Cond.instanceMethod ({ cls := "BakeHouse", name := "shelf", desc := "(II)I" } : Jvm.MethodName)) ∈ tg := tgT 558 rfl rfl
set_option maxRecDepth 100000 in
theorem tw_559 : (Jvm.Cond.selects "BakeHouse" ({ cls := "BakeHouse", name := "shelf", desc := "(II)I" } : Jvm.MethodName) ({ cls := "BakeHouse", name := "shelf", desc := "(II)I" } : Jvm.MethodName)) ∈ tg := tgT 559 rfl rfl
set_option maxRecDepth 100000 in
theorem tw_560 : (Jvm.Cond.code ({ cls := "BakeHouse", name := "shelf", desc := "(II)I" } : Jvm.MethodName) prog_1_method_3_code (4 : Nat) (Option.some Jvm.ClassFile.FieldType.int)) ∈ tg := tgT 560 rfl rfl
set_option maxRecDepth 100000 in
theorem tw_561 : (Jvm.Cond.classLink "BakeHouse" (45 : Nat) "java/lang/NegativeArraySizeException") ∈ tg := tgT 561 rfl rfl
set_option maxRecDepth 100000 in
theorem tw_563 : (Jvm.Cond.methodLink "BakeHouse" (49 : Nat) ({ cls := "java/lang/NegativeArraySizeException", name := "<init>", desc := "(Ljava/lang/String;)V" } : Jvm.MethodName)) ∈ tg := tgT 563 rfl rfl
set_option maxRecDepth 100000 in
theorem tw_564 : (Jvm.Cond.methodLink "BakeHouse" (52 : Nat) ({ cls := "BakeHouse$Shelf", name := "bringIn", desc := "(I)V" } : Jvm.MethodName)) ∈ tg := tgT 564 rfl rfl
set_option maxRecDepth 100000 in
theorem tw_565 : (Jvm.Cond.instanceMethod ({ cls := "BakeHouse$Shelf", name := "bringIn", desc := "(I)V" } : Jvm.MethodName)) ∈ tg := tgT 565 rfl rfl
set_option maxRecDepth 100000 in
theorem tw_566 : (Jvm.Cond.selects "BakeHouse$Shelf" ({ cls := "BakeHouse$Shelf", name := "bringIn", desc := "(I)V" } : Jvm.MethodName) ({ cls := "BakeHouse$Shelf", name := "bringIn", desc := "(I)V" } : Jvm.MethodName)) ∈ tg := tgT 566 rfl rfl
set_option maxRecDepth 100000 in
theorem tw_567 : (Jvm.Cond.code ({ cls := "BakeHouse$Shelf", name := "bringIn", desc := "(I)V" } : Jvm.MethodName) prog_9_method_3_code (3 : Nat) (Option.none : Option Jvm.ClassFile.FieldType)) ∈ tg := tgT 567 rfl rfl
set_option maxRecDepth 100000 in
theorem tw_568 : (Jvm.Cond.methodLink "BakeHouseLaw" (62 : Nat) ({ cls := "BakeHouseLaw", name := "rest", desc := "(LBakeHouse;II[J)I" } : Jvm.MethodName)) ∈ tg := tgT 568 rfl rfl
set_option maxRecDepth 100000 in
theorem tw_569 : (Jvm.Cond.static ({ cls := "BakeHouseLaw", name := "rest", desc := "(LBakeHouse;II[J)I" } : Jvm.MethodName)) ∈ tg := tgT 569 rfl rfl
set_option maxRecDepth 100000 in
theorem tw_570 : (Jvm.Cond.codeWith ({ cls := "BakeHouseLaw", name := "rest", desc := "(LBakeHouse;II[J)I" } : Jvm.MethodName) method_4_code (5 : Nat) (Option.some Jvm.ClassFile.FieldType.int) [((0 : Nat), (10 : Nat), (13 : Nat), (18 : Nat))]) ∈ tg := tgT 570 rfl rfl
set_option maxRecDepth 100000 in
theorem tw_571 : (Jvm.Cond.classLink "BakeHouseLaw" (18 : Nat) "java/lang/IllegalStateException") ∈ tg := tgT 571 rfl rfl
set_option maxRecDepth 100000 in
theorem tw_572 : (Jvm.Cond.methodLink "BakeHouseLaw" (15 : Nat) ({ cls := "BakeHouse", name := "rest", desc := "(II)I" } : Jvm.MethodName)) ∈ tg := tgT 572 rfl rfl
set_option maxRecDepth 100000 in
theorem tw_573 : (Jvm.Cond.instanceMethod ({ cls := "BakeHouse", name := "rest", desc := "(II)I" } : Jvm.MethodName)) ∈ tg := tgT 573 rfl rfl
set_option maxRecDepth 100000 in
theorem tw_574 : (Jvm.Cond.selects "BakeHouse" ({ cls := "BakeHouse", name := "rest", desc := "(II)I" } : Jvm.MethodName) ({ cls := "BakeHouse", name := "rest", desc := "(II)I" } : Jvm.MethodName)) ∈ tg := tgT 574 rfl rfl
set_option maxRecDepth 100000 in
theorem tw_575 : (Jvm.Cond.code ({ cls := "BakeHouse", name := "rest", desc := "(II)I" } : Jvm.MethodName) prog_1_method_5_code (4 : Nat) (Option.some Jvm.ClassFile.FieldType.int)) ∈ tg := tgT 575 rfl rfl
set_option maxRecDepth 100000 in
theorem tw_576 : (Jvm.Cond.methodLink "BakeHouseLaw" (69 : Nat) ({ cls := "BakeHouseLaw", name := "lay", desc := "(LBakeHouse;III[J)I" } : Jvm.MethodName)) ∈ tg := tgT 576 rfl rfl
set_option maxRecDepth 100000 in
theorem tw_577 : (Jvm.Cond.static ({ cls := "BakeHouseLaw", name := "lay", desc := "(LBakeHouse;III[J)I" } : Jvm.MethodName)) ∈ tg := tgT 577 rfl rfl
set_option maxRecDepth 100000 in
theorem tw_578 : (Jvm.Cond.codeWith ({ cls := "BakeHouseLaw", name := "lay", desc := "(LBakeHouse;III[J)I" } : Jvm.MethodName) method_5_code (6 : Nat) (Option.some Jvm.ClassFile.FieldType.int) [((0 : Nat), (12 : Nat), (15 : Nat), (24 : Nat)), ((0 : Nat), (12 : Nat), (19 : Nat), (26 : Nat))]) ∈ tg := tgT 578 rfl rfl
set_option maxRecDepth 100000 in
theorem tw_579 : (Jvm.Cond.classLink "BakeHouseLaw" (24 : Nat) "java/lang/NullPointerException") ∈ tg := tgT 579 rfl rfl
set_option maxRecDepth 100000 in
theorem tw_580 : (Jvm.Cond.instanceMethod ({ cls := "java/lang/NullPointerException", name := "<init>", desc := "()V" } : Jvm.MethodName)) ∈ tg := tgT 580 rfl rfl
set_option maxRecDepth 100000 in
theorem tw_581 : (Jvm.Cond.code ({ cls := "java/lang/NullPointerException", name := "<init>", desc := "()V" } : Jvm.MethodName) prog_21_method_1_code (1 : Nat) (Option.none : Option Jvm.ClassFile.FieldType)) ∈ tg := tgT 581 rfl rfl
set_option maxRecDepth 100000 in
theorem tw_582 : (Jvm.Cond.methodLink "java/lang/NullPointerException" (1 : Nat) ({ cls := "java/lang/RuntimeException", name := "<init>", desc := "()V" } : Jvm.MethodName)) ∈ tg := tgT 582 rfl rfl
set_option maxRecDepth 100000 in
theorem tw_583 : (Jvm.Cond.instanceMethod ({ cls := "java/lang/RuntimeException", name := "<init>", desc := "()V" } : Jvm.MethodName)) ∈ tg := tgT 583 rfl rfl
set_option maxRecDepth 100000 in
theorem tw_584 : (Jvm.Cond.code ({ cls := "java/lang/RuntimeException", name := "<init>", desc := "()V" } : Jvm.MethodName) prog_22_method_1_code (1 : Nat) (Option.none : Option Jvm.ClassFile.FieldType)) ∈ tg := tgT 584 rfl rfl
set_option maxRecDepth 100000 in
theorem tw_585 : (Jvm.Cond.methodLink "java/lang/RuntimeException" (1 : Nat) ({ cls := "java/lang/Exception", name := "<init>", desc := "()V" } : Jvm.MethodName)) ∈ tg := tgT 585 rfl rfl
set_option maxRecDepth 100000 in
theorem tw_586 : (Jvm.Cond.instanceMethod ({ cls := "java/lang/Exception", name := "<init>", desc := "()V" } : Jvm.MethodName)) ∈ tg := tgT 586 rfl rfl
set_option maxRecDepth 100000 in
theorem tw_587 : (Jvm.Cond.code ({ cls := "java/lang/Exception", name := "<init>", desc := "()V" } : Jvm.MethodName) prog_16_method_1_code (1 : Nat) (Option.none : Option Jvm.ClassFile.FieldType)) ∈ tg := tgT 587 rfl rfl
set_option maxRecDepth 100000 in
theorem tw_588 : (Jvm.Cond.methodLink "java/lang/Exception" (1 : Nat) ({ cls := "java/lang/Throwable", name := "<init>", desc := "()V" } : Jvm.MethodName)) ∈ tg := tgT 588 rfl rfl
set_option maxRecDepth 100000 in
theorem tw_589 : (Jvm.Cond.fieldLink "java/lang/NullPointerException" (10 : Nat) "java/lang/NullPointerException" "extendedMessageState" "I") ∈ tg := tgT 589 rfl rfl
set_option maxRecDepth 100000 in
theorem tw_590 : (Jvm.Cond.fieldLink "java/lang/NullPointerException" (20 : Nat) "java/lang/NullPointerException" "extendedMessage" "Ljava/lang/String;") ∈ tg := tgT 590 rfl rfl
set_option maxRecDepth 100000 in
theorem tw_591 : (Jvm.Cond.lays "java/lang/NullPointerException" "java/lang/NullPointerException" "extendedMessageState" "I") ∈ tg := tgT 591 rfl rfl
set_option maxRecDepth 100000 in
theorem tw_592 : (Jvm.Cond.soleField "java/lang/NullPointerException" "extendedMessageState") ∈ tg := tgT 592 rfl rfl
set_option maxRecDepth 100000 in
theorem tw_593 : (Jvm.Cond.lays "java/lang/NullPointerException" "java/lang/NullPointerException" "extendedMessage" "Ljava/lang/String;") ∈ tg := tgT 593 rfl rfl
set_option maxRecDepth 100000 in
theorem tw_594 : (Jvm.Cond.soleField "java/lang/NullPointerException" "extendedMessage") ∈ tg := tgT 594 rfl rfl
set_option maxRecDepth 100000 in
theorem tw_595 : (Jvm.Cond.lays "java/lang/NullPointerException" "java/lang/Throwable" "backtrace" "Ljava/lang/Object;") ∈ tg := tgT 595 rfl rfl
set_option maxRecDepth 100000 in
theorem tw_596 : (Jvm.Cond.lays "java/lang/NullPointerException" "java/lang/Throwable" "detailMessage" "Ljava/lang/String;") ∈ tg := tgT 596 rfl rfl
set_option maxRecDepth 100000 in
theorem tw_597 : (Jvm.Cond.lays "java/lang/NullPointerException" "java/lang/Throwable" "cause" "Ljava/lang/Throwable;") ∈ tg := tgT 597 rfl rfl
set_option maxRecDepth 100000 in
theorem tw_598 : (Jvm.Cond.lays "java/lang/NullPointerException" "java/lang/Throwable" "stackTrace" "[Ljava/lang/StackTraceElement;") ∈ tg := tgT 598 rfl rfl
set_option maxRecDepth 100000 in
theorem tw_599 : (Jvm.Cond.lays "java/lang/NullPointerException" "java/lang/Throwable" "depth" "I") ∈ tg := tgT 599 rfl rfl
set_option maxRecDepth 100000 in
theorem tw_600 : (Jvm.Cond.lays "java/lang/NullPointerException" "java/lang/Throwable" "suppressedExceptions" "Ljava/util/List;") ∈ tg := tgT 600 rfl rfl
set_option maxRecDepth 100000 in
theorem tw_601 : (Jvm.Cond.superclass "java/lang/NullPointerException" "java/lang/RuntimeException") ∈ tg := tgT 601 rfl rfl
set_option maxRecDepth 100000 in
theorem tw_603 : (Jvm.Cond.selects "java/lang/NullPointerException" ({ cls := "java/lang/Throwable", name := "fillInStackTrace", desc := "(I)Ljava/lang/Throwable;" } : Jvm.MethodName) ({ cls := "java/lang/Throwable", name := "fillInStackTrace", desc := "(I)Ljava/lang/Throwable;" } : Jvm.MethodName)) ∈ tg := tgT 603 rfl rfl
set_option maxRecDepth 100000 in
theorem tw_605 : (Jvm.Cond.classLink "BakeHouseLaw" (26 : Nat) "java/lang/ArrayIndexOutOfBoundsException") ∈ tg := tgT 605 rfl rfl
set_option maxRecDepth 100000 in
theorem tw_606 : (Jvm.Cond.instantiable "java/lang/ArrayIndexOutOfBoundsException" (6 : Nat)) ∈ tg := tgT 606 rfl rfl
set_option maxRecDepth 100000 in
theorem tw_607 : (Jvm.Cond.instanceMethod ({ cls := "java/lang/ArrayIndexOutOfBoundsException", name := "<init>", desc := "(Ljava/lang/String;)V" } : Jvm.MethodName)) ∈ tg := tgT 607 rfl rfl
set_option maxRecDepth 100000 in
theorem tw_608 : (Jvm.Cond.code ({ cls := "java/lang/ArrayIndexOutOfBoundsException", name := "<init>", desc := "(Ljava/lang/String;)V" } : Jvm.MethodName) prog_15_method_2_code (2 : Nat) (Option.none : Option Jvm.ClassFile.FieldType)) ∈ tg := tgT 608 rfl rfl
set_option maxRecDepth 100000 in
theorem tw_609 : (Jvm.Cond.methodLink "java/lang/ArrayIndexOutOfBoundsException" (7 : Nat) ({ cls := "java/lang/IndexOutOfBoundsException", name := "<init>", desc := "(Ljava/lang/String;)V" } : Jvm.MethodName)) ∈ tg := tgT 609 rfl rfl
set_option maxRecDepth 100000 in
theorem tw_610 : (Jvm.Cond.instanceMethod ({ cls := "java/lang/IndexOutOfBoundsException", name := "<init>", desc := "(Ljava/lang/String;)V" } : Jvm.MethodName)) ∈ tg := tgT 610 rfl rfl
set_option maxRecDepth 100000 in
theorem tw_611 : (Jvm.Cond.code ({ cls := "java/lang/IndexOutOfBoundsException", name := "<init>", desc := "(Ljava/lang/String;)V" } : Jvm.MethodName) prog_18_method_2_code (2 : Nat) (Option.none : Option Jvm.ClassFile.FieldType)) ∈ tg := tgT 611 rfl rfl
set_option maxRecDepth 100000 in
theorem tw_612 : (Jvm.Cond.methodLink "java/lang/IndexOutOfBoundsException" (7 : Nat) ({ cls := "java/lang/RuntimeException", name := "<init>", desc := "(Ljava/lang/String;)V" } : Jvm.MethodName)) ∈ tg := tgT 612 rfl rfl
set_option maxRecDepth 100000 in
theorem tw_613 : (Jvm.Cond.lays "java/lang/ArrayIndexOutOfBoundsException" "java/lang/Throwable" "backtrace" "Ljava/lang/Object;") ∈ tg := tgT 613 rfl rfl
set_option maxRecDepth 100000 in
theorem tw_614 : (Jvm.Cond.lays "java/lang/ArrayIndexOutOfBoundsException" "java/lang/Throwable" "detailMessage" "Ljava/lang/String;") ∈ tg := tgT 614 rfl rfl
set_option maxRecDepth 100000 in
theorem tw_615 : (Jvm.Cond.lays "java/lang/ArrayIndexOutOfBoundsException" "java/lang/Throwable" "cause" "Ljava/lang/Throwable;") ∈ tg := tgT 615 rfl rfl
set_option maxRecDepth 100000 in
theorem tw_616 : (Jvm.Cond.lays "java/lang/ArrayIndexOutOfBoundsException" "java/lang/Throwable" "stackTrace" "[Ljava/lang/StackTraceElement;") ∈ tg := tgT 616 rfl rfl
set_option maxRecDepth 100000 in
theorem tw_617 : (Jvm.Cond.lays "java/lang/ArrayIndexOutOfBoundsException" "java/lang/Throwable" "depth" "I") ∈ tg := tgT 617 rfl rfl
set_option maxRecDepth 100000 in
theorem tw_618 : (Jvm.Cond.lays "java/lang/ArrayIndexOutOfBoundsException" "java/lang/Throwable" "suppressedExceptions" "Ljava/util/List;") ∈ tg := tgT 618 rfl rfl
set_option maxRecDepth 100000 in
theorem tw_619 : (Jvm.Cond.superclass "java/lang/ArrayIndexOutOfBoundsException" "java/lang/IndexOutOfBoundsException") ∈ tg := tgT 619 rfl rfl
set_option maxRecDepth 100000 in
theorem tw_623 : (Jvm.Cond.selects "java/lang/ArrayIndexOutOfBoundsException" ({ cls := "java/lang/Throwable", name := "fillInStackTrace", desc := "(I)Ljava/lang/Throwable;" } : Jvm.MethodName) ({ cls := "java/lang/Throwable", name := "fillInStackTrace", desc := "(I)Ljava/lang/Throwable;" } : Jvm.MethodName)) ∈ tg := tgT 623 rfl rfl
set_option maxRecDepth 100000 in
theorem tw_624 : (Jvm.Cond.methodLink "BakeHouseLaw" (20 : Nat) ({ cls := "BakeHouse", name := "lay", desc := "(III)I" } : Jvm.MethodName)) ∈ tg := tgT 624 rfl rfl
set_option maxRecDepth 100000 in
theorem tw_625 : (Jvm.Cond.instanceMethod ({ cls := "BakeHouse", name := "lay", desc := "(III)I" } : Jvm.MethodName)) ∈ tg := tgT 625 rfl rfl
set_option maxRecDepth 100000 in
theorem tw_626 : (Jvm.Cond.selects "BakeHouse" ({ cls := "BakeHouse", name := "lay", desc := "(III)I" } : Jvm.MethodName) ({ cls := "BakeHouse", name := "lay", desc := "(III)I" } : Jvm.MethodName)) ∈ tg := tgT 626 rfl rfl
set_option maxRecDepth 100000 in
theorem tw_627 : (Jvm.Cond.code ({ cls := "BakeHouse", name := "lay", desc := "(III)I" } : Jvm.MethodName) prog_1_method_7_code (6 : Nat) (Option.some Jvm.ClassFile.FieldType.int)) ∈ tg := tgT 627 rfl rfl
set_option maxRecDepth 100000 in
theorem tw_628 : (Jvm.Cond.methodLink "BakeHouse" (77 : Nat) ({ cls := "BakeHouse$Dough", name := "doLay", desc := "(LBakeHouse$Shelf;I)V" } : Jvm.MethodName)) ∈ tg := tgT 628 rfl rfl
set_option maxRecDepth 100000 in
theorem tw_629 : (Jvm.Cond.instanceMethod ({ cls := "BakeHouse$Dough", name := "doLay", desc := "(LBakeHouse$Shelf;I)V" } : Jvm.MethodName)) ∈ tg := tgT 629 rfl rfl
set_option maxRecDepth 100000 in
theorem tw_630 : (Jvm.Cond.selects "BakeHouse$Dough" ({ cls := "BakeHouse$Dough", name := "doLay", desc := "(LBakeHouse$Shelf;I)V" } : Jvm.MethodName) ({ cls := "BakeHouse$Dough", name := "doLay", desc := "(LBakeHouse$Shelf;I)V" } : Jvm.MethodName)) ∈ tg := tgT 630 rfl rfl
set_option maxRecDepth 100000 in
theorem tw_631 : (Jvm.Cond.sameMethod "BakeHouse$Dough" "BakeHouse$Dough" "doLay" "(LBakeHouse$Shelf;I)V") ∈ tg := tgT 631 rfl rfl
set_option maxRecDepth 100000 in
theorem tw_632 : (Jvm.Cond.selects "BakeHouse$Brioche" ({ cls := "BakeHouse$Dough", name := "doLay", desc := "(LBakeHouse$Shelf;I)V" } : Jvm.MethodName) ({ cls := "BakeHouse$Brioche", name := "doLay", desc := "(LBakeHouse$Shelf;I)V" } : Jvm.MethodName)) ∈ tg := tgT 632 rfl rfl
set_option maxRecDepth 100000 in
theorem tw_633 : (Jvm.Cond.instanceMethod ({ cls := "BakeHouse$Brioche", name := "doLay", desc := "(LBakeHouse$Shelf;I)V" } : Jvm.MethodName)) ∈ tg := tgT 633 rfl rfl
set_option maxRecDepth 100000 in
theorem tw_634 : (Jvm.Cond.code ({ cls := "BakeHouse$Brioche", name := "doLay", desc := "(LBakeHouse$Shelf;I)V" } : Jvm.MethodName) prog_3_method_3_code (3 : Nat) (Option.none : Option Jvm.ClassFile.FieldType)) ∈ tg := tgT 634 rfl rfl
set_option maxRecDepth 100000 in
theorem tw_635 : (Jvm.Cond.methodLink "BakeHouse$Brioche" (39 : Nat) ({ cls := "BakeHouse$Sweet", name := "doLay", desc := "(LBakeHouse$Shelf;I)V" } : Jvm.MethodName)) ∈ tg := tgT 635 rfl rfl
set_option maxRecDepth 100000 in
theorem tw_636 : (Jvm.Cond.sameMethod "BakeHouse$Sweet" "BakeHouse$Dough" "doLay" "(LBakeHouse$Shelf;I)V") ∈ tg := tgT 636 rfl rfl
set_option maxRecDepth 100000 in
theorem tw_638 : (Jvm.Cond.selects "BakeHouse$Flat" ({ cls := "BakeHouse$Dough", name := "doLay", desc := "(LBakeHouse$Shelf;I)V" } : Jvm.MethodName) ({ cls := "BakeHouse$Flat", name := "doLay", desc := "(LBakeHouse$Shelf;I)V" } : Jvm.MethodName)) ∈ tg := tgT 638 rfl rfl
set_option maxRecDepth 100000 in
theorem tw_639 : (Jvm.Cond.instanceMethod ({ cls := "BakeHouse$Flat", name := "doLay", desc := "(LBakeHouse$Shelf;I)V" } : Jvm.MethodName)) ∈ tg := tgT 639 rfl rfl
set_option maxRecDepth 100000 in
theorem tw_640 : (Jvm.Cond.code ({ cls := "BakeHouse$Flat", name := "doLay", desc := "(LBakeHouse$Shelf;I)V" } : Jvm.MethodName) prog_5_method_3_code (3 : Nat) (Option.none : Option Jvm.ClassFile.FieldType)) ∈ tg := tgT 640 rfl rfl
set_option maxRecDepth 100000 in
theorem tw_641 : (Jvm.Cond.methodLink "BakeHouse$Flat" (25 : Nat) ({ cls := "BakeHouse$Dough", name := "doLay", desc := "(LBakeHouse$Shelf;I)V" } : Jvm.MethodName)) ∈ tg := tgT 641 rfl rfl
set_option maxRecDepth 100000 in
theorem tw_642 : (Jvm.Cond.selects "BakeHouse$Leavened" ({ cls := "BakeHouse$Dough", name := "doLay", desc := "(LBakeHouse$Shelf;I)V" } : Jvm.MethodName) ({ cls := "BakeHouse$Dough", name := "doLay", desc := "(LBakeHouse$Shelf;I)V" } : Jvm.MethodName)) ∈ tg := tgT 642 rfl rfl
set_option maxRecDepth 100000 in
theorem tw_643 : (Jvm.Cond.selects "BakeHouse$Levain" ({ cls := "BakeHouse$Dough", name := "doLay", desc := "(LBakeHouse$Shelf;I)V" } : Jvm.MethodName) ({ cls := "BakeHouse$Levain", name := "doLay", desc := "(LBakeHouse$Shelf;I)V" } : Jvm.MethodName)) ∈ tg := tgT 643 rfl rfl
set_option maxRecDepth 100000 in
theorem tw_644 : (Jvm.Cond.instanceMethod ({ cls := "BakeHouse$Levain", name := "doLay", desc := "(LBakeHouse$Shelf;I)V" } : Jvm.MethodName)) ∈ tg := tgT 644 rfl rfl
set_option maxRecDepth 100000 in
theorem tw_645 : (Jvm.Cond.code ({ cls := "BakeHouse$Levain", name := "doLay", desc := "(LBakeHouse$Shelf;I)V" } : Jvm.MethodName) prog_7_method_3_code (3 : Nat) (Option.none : Option Jvm.ClassFile.FieldType)) ∈ tg := tgT 645 rfl rfl
set_option maxRecDepth 100000 in
theorem tw_646 : (Jvm.Cond.methodLink "BakeHouse$Levain" (29 : Nat) ({ cls := "BakeHouse$Levain", name := "doFold", desc := "()V" } : Jvm.MethodName)) ∈ tg := tgT 646 rfl rfl
set_option maxRecDepth 100000 in
theorem tw_647 : (Jvm.Cond.sameMethod "BakeHouse$Levain" "BakeHouse$Sour" "doFold" "()V") ∈ tg := tgT 647 rfl rfl
set_option maxRecDepth 100000 in
theorem tw_649 : (Jvm.Cond.selects "BakeHouse$Levain" ({ cls := "BakeHouse$Levain", name := "doFold", desc := "()V" } : Jvm.MethodName) ({ cls := "BakeHouse$Sour", name := "doFold", desc := "()V" } : Jvm.MethodName)) ∈ tg := tgT 649 rfl rfl
set_option maxRecDepth 100000 in
theorem tw_650 : (Jvm.Cond.methodLink "BakeHouse$Levain" (33 : Nat) ({ cls := "BakeHouse$Sour", name := "doLay", desc := "(LBakeHouse$Shelf;I)V" } : Jvm.MethodName)) ∈ tg := tgT 650 rfl rfl
set_option maxRecDepth 100000 in
theorem tw_651 : (Jvm.Cond.sameMethod "BakeHouse$Sour" "BakeHouse$Dough" "doLay" "(LBakeHouse$Shelf;I)V") ∈ tg := tgT 651 rfl rfl
set_option maxRecDepth 100000 in
theorem tw_652 : (Jvm.Cond.selects "BakeHouse$Rye" ({ cls := "BakeHouse$Dough", name := "doLay", desc := "(LBakeHouse$Shelf;I)V" } : Jvm.MethodName) ({ cls := "BakeHouse$Dough", name := "doLay", desc := "(LBakeHouse$Shelf;I)V" } : Jvm.MethodName)) ∈ tg := tgT 652 rfl rfl
set_option maxRecDepth 100000 in
theorem tw_653 : (Jvm.Cond.selects "BakeHouse$Sour" ({ cls := "BakeHouse$Dough", name := "doLay", desc := "(LBakeHouse$Shelf;I)V" } : Jvm.MethodName) ({ cls := "BakeHouse$Dough", name := "doLay", desc := "(LBakeHouse$Shelf;I)V" } : Jvm.MethodName)) ∈ tg := tgT 653 rfl rfl
set_option maxRecDepth 100000 in
theorem tw_654 : (Jvm.Cond.selects "BakeHouse$Sweet" ({ cls := "BakeHouse$Dough", name := "doLay", desc := "(LBakeHouse$Shelf;I)V" } : Jvm.MethodName) ({ cls := "BakeHouse$Dough", name := "doLay", desc := "(LBakeHouse$Shelf;I)V" } : Jvm.MethodName)) ∈ tg := tgT 654 rfl rfl
set_option maxRecDepth 100000 in
theorem tw_655 : (Jvm.Cond.code ({ cls := "BakeHouse$Dough", name := "doLay", desc := "(LBakeHouse$Shelf;I)V" } : Jvm.MethodName) prog_4_method_4_code (3 : Nat) (Option.none : Option Jvm.ClassFile.FieldType)) ∈ tg := tgT 655 rfl rfl
set_option maxRecDepth 100000 in
theorem tw_656 : (Jvm.Cond.methodLink "BakeHouse$Dough" (49 : Nat) ({ cls := "BakeHouse$Shelf", name := "isOut", desc := "()Z" } : Jvm.MethodName)) ∈ tg := tgT 656 rfl rfl
set_option maxRecDepth 100000 in
theorem tw_657 : (Jvm.Cond.classLink "BakeHouse$Dough" (58 : Nat) "java/lang/NullPointerException") ∈ tg := tgT 657 rfl rfl
set_option maxRecDepth 100000 in
theorem tw_659 : (Jvm.Cond.methodLink "BakeHouse$Dough" (62 : Nat) ({ cls := "java/lang/NullPointerException", name := "<init>", desc := "(Ljava/lang/String;)V" } : Jvm.MethodName)) ∈ tg := tgT 659 rfl rfl
set_option maxRecDepth 100000 in
theorem tw_660 : (Jvm.Cond.instanceMethod ({ cls := "java/lang/NullPointerException", name := "<init>", desc := "(Ljava/lang/String;)V" } : Jvm.MethodName)) ∈ tg := tgT 660 rfl rfl
set_option maxRecDepth 100000 in
theorem tw_661 : (Jvm.Cond.code ({ cls := "java/lang/NullPointerException", name := "<init>", desc := "(Ljava/lang/String;)V" } : Jvm.MethodName) prog_21_method_2_code (2 : Nat) (Option.none : Option Jvm.ClassFile.FieldType)) ∈ tg := tgT 661 rfl rfl
set_option maxRecDepth 100000 in
theorem tw_662 : (Jvm.Cond.methodLink "java/lang/NullPointerException" (7 : Nat) ({ cls := "java/lang/RuntimeException", name := "<init>", desc := "(Ljava/lang/String;)V" } : Jvm.MethodName)) ∈ tg := tgT 662 rfl rfl
set_option maxRecDepth 100000 in
theorem tw_663 : (Jvm.Cond.methodLink "BakeHouse$Dough" (65 : Nat) ({ cls := "BakeHouse$Shelf", name := "has", desc := "(I)Z" } : Jvm.MethodName)) ∈ tg := tgT 663 rfl rfl
set_option maxRecDepth 100000 in
theorem tw_664 : (Jvm.Cond.classLink "BakeHouse$Dough" (69 : Nat) "java/lang/ArrayIndexOutOfBoundsException") ∈ tg := tgT 664 rfl rfl
set_option maxRecDepth 100000 in
theorem tw_666 : (Jvm.Cond.methodLink "BakeHouse$Dough" (73 : Nat) ({ cls := "java/lang/ArrayIndexOutOfBoundsException", name := "<init>", desc := "(Ljava/lang/String;)V" } : Jvm.MethodName)) ∈ tg := tgT 666 rfl rfl
set_option maxRecDepth 100000 in
theorem tw_667 : (Jvm.Cond.methodLink "BakeHouse$Dough" (74 : Nat) ({ cls := "BakeHouse$Shelf", name := "put", desc := "(II)V" } : Jvm.MethodName)) ∈ tg := tgT 667 rfl rfl
set_option maxRecDepth 100000 in
theorem tw_668 : (Jvm.Cond.instanceMethod ({ cls := "BakeHouse$Shelf", name := "put", desc := "(II)V" } : Jvm.MethodName)) ∈ tg := tgT 668 rfl rfl
set_option maxRecDepth 100000 in
theorem tw_669 : (Jvm.Cond.selects "BakeHouse$Shelf" ({ cls := "BakeHouse$Shelf", name := "put", desc := "(II)V" } : Jvm.MethodName) ({ cls := "BakeHouse$Shelf", name := "put", desc := "(II)V" } : Jvm.MethodName)) ∈ tg := tgT 669 rfl rfl
set_option maxRecDepth 100000 in
theorem tw_670 : (Jvm.Cond.code ({ cls := "BakeHouse$Shelf", name := "put", desc := "(II)V" } : Jvm.MethodName) prog_9_method_7_code (3 : Nat) (Option.none : Option Jvm.ClassFile.FieldType)) ∈ tg := tgT 670 rfl rfl
set_option maxRecDepth 100000 in
theorem tw_671 : (Jvm.Cond.methodLink "BakeHouse" (81 : Nat) ({ cls := "BakeHouse", name := "placesOfLoaf", desc := "(I)I" } : Jvm.MethodName)) ∈ tg := tgT 671 rfl rfl
set_option maxRecDepth 100000 in
theorem tw_673 : (Jvm.Cond.instanceMethod ({ cls := "BakeHouse", name := "placesOfLoaf", desc := "(I)I" } : Jvm.MethodName)) ∈ tg := tgT 673 rfl rfl
set_option maxRecDepth 100000 in
theorem tw_674 : (Jvm.Cond.code ({ cls := "BakeHouse", name := "placesOfLoaf", desc := "(I)I" } : Jvm.MethodName) prog_1_method_23_code (4 : Nat) (Option.some Jvm.ClassFile.FieldType.int)) ∈ tg := tgT 674 rfl rfl
set_option maxRecDepth 100000 in
theorem tw_675 : (Jvm.Cond.methodLink "BakeHouse" (169 : Nat) ({ cls := "BakeHouse$Shelf", name := "timesOf", desc := "(I)I" } : Jvm.MethodName)) ∈ tg := tgT 675 rfl rfl
set_option maxRecDepth 100000 in
theorem tw_676 : (Jvm.Cond.instanceMethod ({ cls := "BakeHouse$Shelf", name := "timesOf", desc := "(I)I" } : Jvm.MethodName)) ∈ tg := tgT 676 rfl rfl
set_option maxRecDepth 100000 in
theorem tw_677 : (Jvm.Cond.selects "BakeHouse$Shelf" ({ cls := "BakeHouse$Shelf", name := "timesOf", desc := "(I)I" } : Jvm.MethodName) ({ cls := "BakeHouse$Shelf", name := "timesOf", desc := "(I)I" } : Jvm.MethodName)) ∈ tg := tgT 677 rfl rfl
set_option maxRecDepth 100000 in
theorem tw_678 : (Jvm.Cond.code ({ cls := "BakeHouse$Shelf", name := "timesOf", desc := "(I)I" } : Jvm.MethodName) prog_9_method_8_code (4 : Nat) (Option.some Jvm.ClassFile.FieldType.int)) ∈ tg := tgT 678 rfl rfl
set_option maxRecDepth 100000 in
theorem tw_679 : (Jvm.Cond.methodLink "BakeHouse$Shelf" (23 : Nat) ({ cls := "BakeHouse$Shelf", name := "loafIn", desc := "(I)I" } : Jvm.MethodName)) ∈ tg := tgT 679 rfl rfl
set_option maxRecDepth 100000 in
theorem tw_680 : (Jvm.Cond.methodLink "BakeHouseLaw" (77 : Nat) ({ cls := "BakeHouseLaw", name := "worth", desc := "(LBakeHouse;I[J)I" } : Jvm.MethodName)) ∈ tg := tgT 680 rfl rfl
set_option maxRecDepth 100000 in
theorem tw_681 : (Jvm.Cond.static ({ cls := "BakeHouseLaw", name := "worth", desc := "(LBakeHouse;I[J)I" } : Jvm.MethodName)) ∈ tg := tgT 681 rfl rfl
set_option maxRecDepth 100000 in
theorem tw_682 : (Jvm.Cond.codeWith ({ cls := "BakeHouseLaw", name := "worth", desc := "(LBakeHouse;I[J)I" } : Jvm.MethodName) method_6_code (4 : Nat) (Option.some Jvm.ClassFile.FieldType.int) [((0 : Nat), (9 : Nat), (12 : Nat), (32 : Nat))]) ∈ tg := tgT 682 rfl rfl
set_option maxRecDepth 100000 in
theorem tw_683 : (Jvm.Cond.classLink "BakeHouseLaw" (32 : Nat) "java/lang/ArithmeticException") ∈ tg := tgT 683 rfl rfl
set_option maxRecDepth 100000 in
theorem tw_684 : (Jvm.Cond.instantiable "java/lang/ArithmeticException" (6 : Nat)) ∈ tg := tgT 684 rfl rfl
set_option maxRecDepth 100000 in
theorem tw_685 : (Jvm.Cond.instanceMethod ({ cls := "java/lang/ArithmeticException", name := "<init>", desc := "(Ljava/lang/String;)V" } : Jvm.MethodName)) ∈ tg := tgT 685 rfl rfl
set_option maxRecDepth 100000 in
theorem tw_686 : (Jvm.Cond.code ({ cls := "java/lang/ArithmeticException", name := "<init>", desc := "(Ljava/lang/String;)V" } : Jvm.MethodName) prog_14_method_2_code (2 : Nat) (Option.none : Option Jvm.ClassFile.FieldType)) ∈ tg := tgT 686 rfl rfl
set_option maxRecDepth 100000 in
theorem tw_687 : (Jvm.Cond.methodLink "java/lang/ArithmeticException" (7 : Nat) ({ cls := "java/lang/RuntimeException", name := "<init>", desc := "(Ljava/lang/String;)V" } : Jvm.MethodName)) ∈ tg := tgT 687 rfl rfl
set_option maxRecDepth 100000 in
theorem tw_688 : (Jvm.Cond.lays "java/lang/ArithmeticException" "java/lang/Throwable" "backtrace" "Ljava/lang/Object;") ∈ tg := tgT 688 rfl rfl
set_option maxRecDepth 100000 in
theorem tw_689 : (Jvm.Cond.lays "java/lang/ArithmeticException" "java/lang/Throwable" "detailMessage" "Ljava/lang/String;") ∈ tg := tgT 689 rfl rfl
set_option maxRecDepth 100000 in
theorem tw_690 : (Jvm.Cond.lays "java/lang/ArithmeticException" "java/lang/Throwable" "cause" "Ljava/lang/Throwable;") ∈ tg := tgT 690 rfl rfl
set_option maxRecDepth 100000 in
theorem tw_691 : (Jvm.Cond.lays "java/lang/ArithmeticException" "java/lang/Throwable" "stackTrace" "[Ljava/lang/StackTraceElement;") ∈ tg := tgT 691 rfl rfl
set_option maxRecDepth 100000 in
theorem tw_692 : (Jvm.Cond.lays "java/lang/ArithmeticException" "java/lang/Throwable" "depth" "I") ∈ tg := tgT 692 rfl rfl
set_option maxRecDepth 100000 in
theorem tw_693 : (Jvm.Cond.lays "java/lang/ArithmeticException" "java/lang/Throwable" "suppressedExceptions" "Ljava/util/List;") ∈ tg := tgT 693 rfl rfl
set_option maxRecDepth 100000 in
theorem tw_694 : (Jvm.Cond.superclass "java/lang/ArithmeticException" "java/lang/RuntimeException") ∈ tg := tgT 694 rfl rfl
set_option maxRecDepth 100000 in
theorem tw_696 : (Jvm.Cond.selects "java/lang/ArithmeticException" ({ cls := "java/lang/Throwable", name := "fillInStackTrace", desc := "(I)Ljava/lang/Throwable;" } : Jvm.MethodName) ({ cls := "java/lang/Throwable", name := "fillInStackTrace", desc := "(I)Ljava/lang/Throwable;" } : Jvm.MethodName)) ∈ tg := tgT 696 rfl rfl
set_option maxRecDepth 100000 in
theorem tw_697 : (Jvm.Cond.methodLink "BakeHouseLaw" (28 : Nat) ({ cls := "BakeHouse", name := "worth", desc := "(I)I" } : Jvm.MethodName)) ∈ tg := tgT 697 rfl rfl
set_option maxRecDepth 100000 in
theorem tw_698 : (Jvm.Cond.instanceMethod ({ cls := "BakeHouse", name := "worth", desc := "(I)I" } : Jvm.MethodName)) ∈ tg := tgT 698 rfl rfl
set_option maxRecDepth 100000 in
theorem tw_699 : (Jvm.Cond.selects "BakeHouse" ({ cls := "BakeHouse", name := "worth", desc := "(I)I" } : Jvm.MethodName) ({ cls := "BakeHouse", name := "worth", desc := "(I)I" } : Jvm.MethodName)) ∈ tg := tgT 699 rfl rfl
set_option maxRecDepth 100000 in
theorem tw_700 : (Jvm.Cond.code ({ cls := "BakeHouse", name := "worth", desc := "(I)I" } : Jvm.MethodName) prog_1_method_9_code (3 : Nat) (Option.some Jvm.ClassFile.FieldType.int)) ∈ tg := tgT 700 rfl rfl
set_option maxRecDepth 100000 in
theorem tw_701 : (Jvm.Cond.methodLink "BakeHouse" (88 : Nat) ({ cls := "BakeHouse$Dough", name := "askWorth", desc := "()I" } : Jvm.MethodName)) ∈ tg := tgT 701 rfl rfl
set_option maxRecDepth 100000 in
theorem tw_702 : (Jvm.Cond.instanceMethod ({ cls := "BakeHouse$Dough", name := "askWorth", desc := "()I" } : Jvm.MethodName)) ∈ tg := tgT 702 rfl rfl
set_option maxRecDepth 100000 in
theorem tw_703 : (Jvm.Cond.selects "BakeHouse$Dough" ({ cls := "BakeHouse$Dough", name := "askWorth", desc := "()I" } : Jvm.MethodName) ({ cls := "BakeHouse$Dough", name := "askWorth", desc := "()I" } : Jvm.MethodName)) ∈ tg := tgT 703 rfl rfl
set_option maxRecDepth 100000 in
theorem tw_704 : (Jvm.Cond.sameMethod "BakeHouse$Dough" "BakeHouse$Dough" "askWorth" "()I") ∈ tg := tgT 704 rfl rfl
set_option maxRecDepth 100000 in
theorem tw_705 : (Jvm.Cond.selects "BakeHouse$Brioche" ({ cls := "BakeHouse$Dough", name := "askWorth", desc := "()I" } : Jvm.MethodName) ({ cls := "BakeHouse$Brioche", name := "askWorth", desc := "()I" } : Jvm.MethodName)) ∈ tg := tgT 705 rfl rfl
set_option maxRecDepth 100000 in
theorem tw_706 : (Jvm.Cond.instanceMethod ({ cls := "BakeHouse$Brioche", name := "askWorth", desc := "()I" } : Jvm.MethodName)) ∈ tg := tgT 706 rfl rfl
set_option maxRecDepth 100000 in
theorem tw_707 : (Jvm.Cond.code ({ cls := "BakeHouse$Brioche", name := "askWorth", desc := "()I" } : Jvm.MethodName) prog_3_method_4_code (1 : Nat) (Option.some Jvm.ClassFile.FieldType.int)) ∈ tg := tgT 707 rfl rfl
set_option maxRecDepth 100000 in
theorem tw_708 : (Jvm.Cond.methodLink "BakeHouse$Brioche" (43 : Nat) ({ cls := "BakeHouse$Sweet", name := "askWorth", desc := "()I" } : Jvm.MethodName)) ∈ tg := tgT 708 rfl rfl
set_option maxRecDepth 100000 in
theorem tw_709 : (Jvm.Cond.sameMethod "BakeHouse$Sweet" "BakeHouse$Dough" "askWorth" "()I") ∈ tg := tgT 709 rfl rfl
set_option maxRecDepth 100000 in
theorem tw_711 : (Jvm.Cond.selects "BakeHouse$Flat" ({ cls := "BakeHouse$Dough", name := "askWorth", desc := "()I" } : Jvm.MethodName) ({ cls := "BakeHouse$Flat", name := "askWorth", desc := "()I" } : Jvm.MethodName)) ∈ tg := tgT 711 rfl rfl
set_option maxRecDepth 100000 in
theorem tw_712 : (Jvm.Cond.instanceMethod ({ cls := "BakeHouse$Flat", name := "askWorth", desc := "()I" } : Jvm.MethodName)) ∈ tg := tgT 712 rfl rfl
set_option maxRecDepth 100000 in
theorem tw_713 : (Jvm.Cond.code ({ cls := "BakeHouse$Flat", name := "askWorth", desc := "()I" } : Jvm.MethodName) prog_5_method_5_code (1 : Nat) (Option.some Jvm.ClassFile.FieldType.int)) ∈ tg := tgT 713 rfl rfl
set_option maxRecDepth 100000 in
theorem tw_714 : (Jvm.Cond.classLink "BakeHouse$Flat" (39 : Nat) "java/lang/ArithmeticException") ∈ tg := tgT 714 rfl rfl
set_option maxRecDepth 100000 in
theorem tw_716 : (Jvm.Cond.methodLink "BakeHouse$Flat" (43 : Nat) ({ cls := "java/lang/ArithmeticException", name := "<init>", desc := "(Ljava/lang/String;)V" } : Jvm.MethodName)) ∈ tg := tgT 716 rfl rfl
set_option maxRecDepth 100000 in
theorem tw_717 : (Jvm.Cond.selects "BakeHouse$Leavened" ({ cls := "BakeHouse$Dough", name := "askWorth", desc := "()I" } : Jvm.MethodName) ({ cls := "BakeHouse$Dough", name := "askWorth", desc := "()I" } : Jvm.MethodName)) ∈ tg := tgT 717 rfl rfl
set_option maxRecDepth 100000 in
theorem tw_718 : (Jvm.Cond.selects "BakeHouse$Levain" ({ cls := "BakeHouse$Dough", name := "askWorth", desc := "()I" } : Jvm.MethodName) ({ cls := "BakeHouse$Levain", name := "askWorth", desc := "()I" } : Jvm.MethodName)) ∈ tg := tgT 718 rfl rfl
set_option maxRecDepth 100000 in
theorem tw_719 : (Jvm.Cond.instanceMethod ({ cls := "BakeHouse$Levain", name := "askWorth", desc := "()I" } : Jvm.MethodName)) ∈ tg := tgT 719 rfl rfl
set_option maxRecDepth 100000 in
theorem tw_720 : (Jvm.Cond.code ({ cls := "BakeHouse$Levain", name := "askWorth", desc := "()I" } : Jvm.MethodName) prog_7_method_4_code (2 : Nat) (Option.some Jvm.ClassFile.FieldType.int)) ∈ tg := tgT 720 rfl rfl
set_option maxRecDepth 100000 in
theorem tw_721 : (Jvm.Cond.methodLink "BakeHouse$Levain" (37 : Nat) ({ cls := "BakeHouse$Levain", name := "isDoneByCrust", desc := "()Z" } : Jvm.MethodName)) ∈ tg := tgT 721 rfl rfl
set_option maxRecDepth 100000 in
theorem tw_722 : (Jvm.Cond.sameMethod "BakeHouse$Levain" "BakeHouse$Dough" "isDoneByCrust" "()Z") ∈ tg := tgT 722 rfl rfl
set_option maxRecDepth 100000 in
theorem tw_724 : (Jvm.Cond.selects "BakeHouse$Levain" ({ cls := "BakeHouse$Levain", name := "isDoneByCrust", desc := "()Z" } : Jvm.MethodName) ({ cls := "BakeHouse$Dough", name := "isDoneByCrust", desc := "()Z" } : Jvm.MethodName)) ∈ tg := tgT 724 rfl rfl
set_option maxRecDepth 100000 in
theorem tw_725 : (Jvm.Cond.methodLink "BakeHouse$Levain" (41 : Nat) ({ cls := "BakeHouse$Sour", name := "askWorth", desc := "()I" } : Jvm.MethodName)) ∈ tg := tgT 725 rfl rfl
set_option maxRecDepth 100000 in
theorem tw_726 : (Jvm.Cond.instanceMethod ({ cls := "BakeHouse$Sour", name := "askWorth", desc := "()I" } : Jvm.MethodName)) ∈ tg := tgT 726 rfl rfl
set_option maxRecDepth 100000 in
theorem tw_727 : (Jvm.Cond.code ({ cls := "BakeHouse$Sour", name := "askWorth", desc := "()I" } : Jvm.MethodName) prog_10_method_5_code (1 : Nat) (Option.some Jvm.ClassFile.FieldType.int)) ∈ tg := tgT 727 rfl rfl
set_option maxRecDepth 100000 in
theorem tw_728 : (Jvm.Cond.methodLink "BakeHouse$Sour" (43 : Nat) ({ cls := "BakeHouse$Rye", name := "askWorth", desc := "()I" } : Jvm.MethodName)) ∈ tg := tgT 728 rfl rfl
set_option maxRecDepth 100000 in
theorem tw_729 : (Jvm.Cond.sameMethod "BakeHouse$Rye" "BakeHouse$Dough" "askWorth" "()I") ∈ tg := tgT 729 rfl rfl
set_option maxRecDepth 100000 in
theorem tw_730 : (Jvm.Cond.selects "BakeHouse$Rye" ({ cls := "BakeHouse$Dough", name := "askWorth", desc := "()I" } : Jvm.MethodName) ({ cls := "BakeHouse$Dough", name := "askWorth", desc := "()I" } : Jvm.MethodName)) ∈ tg := tgT 730 rfl rfl
set_option maxRecDepth 100000 in
theorem tw_731 : (Jvm.Cond.selects "BakeHouse$Sour" ({ cls := "BakeHouse$Dough", name := "askWorth", desc := "()I" } : Jvm.MethodName) ({ cls := "BakeHouse$Sour", name := "askWorth", desc := "()I" } : Jvm.MethodName)) ∈ tg := tgT 731 rfl rfl
set_option maxRecDepth 100000 in
theorem tw_732 : (Jvm.Cond.selects "BakeHouse$Sweet" ({ cls := "BakeHouse$Dough", name := "askWorth", desc := "()I" } : Jvm.MethodName) ({ cls := "BakeHouse$Dough", name := "askWorth", desc := "()I" } : Jvm.MethodName)) ∈ tg := tgT 732 rfl rfl
set_option maxRecDepth 100000 in
theorem tw_733 : (Jvm.Cond.code ({ cls := "BakeHouse$Dough", name := "askWorth", desc := "()I" } : Jvm.MethodName) prog_4_method_6_code (1 : Nat) (Option.some Jvm.ClassFile.FieldType.int)) ∈ tg := tgT 733 rfl rfl
set_option maxRecDepth 100000 in
theorem tw_734 : (Jvm.Cond.methodLink "BakeHouseLaw" (81 : Nat) ({ cls := "BakeHouseLaw", name := "cost", desc := "(LBakeHouse;I[J)I" } : Jvm.MethodName)) ∈ tg := tgT 734 rfl rfl
set_option maxRecDepth 100000 in
theorem tw_735 : (Jvm.Cond.static ({ cls := "BakeHouseLaw", name := "cost", desc := "(LBakeHouse;I[J)I" } : Jvm.MethodName)) ∈ tg := tgT 735 rfl rfl
set_option maxRecDepth 100000 in
theorem tw_736 : (Jvm.Cond.codeWith ({ cls := "BakeHouseLaw", name := "cost", desc := "(LBakeHouse;I[J)I" } : Jvm.MethodName) method_7_code (4 : Nat) (Option.some Jvm.ClassFile.FieldType.int) [((0 : Nat), (9 : Nat), (12 : Nat), (32 : Nat))]) ∈ tg := tgT 736 rfl rfl
set_option maxRecDepth 100000 in
theorem tw_737 : (Jvm.Cond.methodLink "BakeHouseLaw" (34 : Nat) ({ cls := "BakeHouse", name := "cost", desc := "(I)I" } : Jvm.MethodName)) ∈ tg := tgT 737 rfl rfl
set_option maxRecDepth 100000 in
theorem tw_738 : (Jvm.Cond.instanceMethod ({ cls := "BakeHouse", name := "cost", desc := "(I)I" } : Jvm.MethodName)) ∈ tg := tgT 738 rfl rfl
set_option maxRecDepth 100000 in
theorem tw_739 : (Jvm.Cond.selects "BakeHouse" ({ cls := "BakeHouse", name := "cost", desc := "(I)I" } : Jvm.MethodName) ({ cls := "BakeHouse", name := "cost", desc := "(I)I" } : Jvm.MethodName)) ∈ tg := tgT 739 rfl rfl
set_option maxRecDepth 100000 in
theorem tw_740 : (Jvm.Cond.code ({ cls := "BakeHouse", name := "cost", desc := "(I)I" } : Jvm.MethodName) prog_1_method_10_code (3 : Nat) (Option.some Jvm.ClassFile.FieldType.int)) ∈ tg := tgT 740 rfl rfl
set_option maxRecDepth 100000 in
theorem tw_741 : (Jvm.Cond.methodLink "BakeHouse" (92 : Nat) ({ cls := "BakeHouse", name := "isSold", desc := "(LBakeHouse$Dough;)Z" } : Jvm.MethodName)) ∈ tg := tgT 741 rfl rfl
set_option maxRecDepth 100000 in
theorem tw_742 : (Jvm.Cond.static ({ cls := "BakeHouse", name := "isSold", desc := "(LBakeHouse$Dough;)Z" } : Jvm.MethodName)) ∈ tg := tgT 742 rfl rfl
set_option maxRecDepth 100000 in
theorem tw_743 : (Jvm.Cond.code ({ cls := "BakeHouse", name := "isSold", desc := "(LBakeHouse$Dough;)Z" } : Jvm.MethodName) prog_1_method_26_code (1 : Nat) (Option.some Jvm.ClassFile.FieldType.boolean)) ∈ tg := tgT 743 rfl rfl
set_option maxRecDepth 100000 in
theorem tw_744 : (Jvm.Cond.methodLink "BakeHouse" (96 : Nat) ({ cls := "BakeHouse", name := "priceOf", desc := "(LBakeHouse$Dough;)I" } : Jvm.MethodName)) ∈ tg := tgT 744 rfl rfl
set_option maxRecDepth 100000 in
theorem tw_745 : (Jvm.Cond.static ({ cls := "BakeHouse", name := "priceOf", desc := "(LBakeHouse$Dough;)I" } : Jvm.MethodName)) ∈ tg := tgT 745 rfl rfl
set_option maxRecDepth 100000 in
theorem tw_746 : (Jvm.Cond.code ({ cls := "BakeHouse", name := "priceOf", desc := "(LBakeHouse$Dough;)I" } : Jvm.MethodName) prog_1_method_27_code (2 : Nat) (Option.some Jvm.ClassFile.FieldType.int)) ∈ tg := tgT 746 rfl rfl
set_option maxRecDepth 100000 in
theorem tw_747 : (Jvm.Cond.methodLink "BakeHouseLaw" (84 : Nat) ({ cls := "BakeHouseLaw", name := "change", desc := "(LBakeHouse;II[J)I" } : Jvm.MethodName)) ∈ tg := tgT 747 rfl rfl
set_option maxRecDepth 100000 in
theorem tw_748 : (Jvm.Cond.static ({ cls := "BakeHouseLaw", name := "change", desc := "(LBakeHouse;II[J)I" } : Jvm.MethodName)) ∈ tg := tgT 748 rfl rfl
set_option maxRecDepth 100000 in
theorem tw_749 : (Jvm.Cond.codeWith ({ cls := "BakeHouseLaw", name := "change", desc := "(LBakeHouse;II[J)I" } : Jvm.MethodName) method_8_code (5 : Nat) (Option.some Jvm.ClassFile.FieldType.int) [((0 : Nat), (10 : Nat), (13 : Nat), (32 : Nat))]) ∈ tg := tgT 749 rfl rfl
set_option maxRecDepth 100000 in
theorem tw_750 : (Jvm.Cond.methodLink "BakeHouseLaw" (37 : Nat) ({ cls := "BakeHouse", name := "change", desc := "(II)I" } : Jvm.MethodName)) ∈ tg := tgT 750 rfl rfl
set_option maxRecDepth 100000 in
theorem tw_751 : (Jvm.Cond.instanceMethod ({ cls := "BakeHouse", name := "change", desc := "(II)I" } : Jvm.MethodName)) ∈ tg := tgT 751 rfl rfl
set_option maxRecDepth 100000 in
theorem tw_752 : (Jvm.Cond.selects "BakeHouse" ({ cls := "BakeHouse", name := "change", desc := "(II)I" } : Jvm.MethodName) ({ cls := "BakeHouse", name := "change", desc := "(II)I" } : Jvm.MethodName)) ∈ tg := tgT 752 rfl rfl
set_option maxRecDepth 100000 in
theorem tw_753 : (Jvm.Cond.code ({ cls := "BakeHouse", name := "change", desc := "(II)I" } : Jvm.MethodName) prog_1_method_11_code (5 : Nat) (Option.some Jvm.ClassFile.FieldType.int)) ∈ tg := tgT 753 rfl rfl
set_option maxRecDepth 100000 in
theorem tw_754 : (Jvm.Cond.constant "BakeHouse" (100 : Nat) (100000 : Int32)) ∈ tg := tgT 754 rfl rfl
set_option maxRecDepth 100000 in
theorem tw_755 : (Jvm.Cond.classLink "BakeHouseLaw" (41 : Nat) "BakeHouseModel") ∈ tg := tgT 755 rfl rfl
set_option maxRecDepth 100000 in
theorem tw_756 : (Jvm.Cond.instantiable "BakeHouseModel" (17 : Nat)) ∈ tg := tgT 756 rfl rfl
set_option maxRecDepth 100000 in
theorem tw_757 : (Jvm.Cond.methodLink "BakeHouseLaw" (43 : Nat) ({ cls := "BakeHouseModel", name := "<init>", desc := "()V" } : Jvm.MethodName)) ∈ tg := tgT 757 rfl rfl
set_option maxRecDepth 100000 in
theorem tw_758 : (Jvm.Cond.instanceMethod ({ cls := "BakeHouseModel", name := "<init>", desc := "()V" } : Jvm.MethodName)) ∈ tg := tgT 758 rfl rfl
set_option maxRecDepth 100000 in
theorem tw_759 : (Jvm.Cond.code ({ cls := "BakeHouseModel", name := "<init>", desc := "()V" } : Jvm.MethodName) prog_13_method_1_code (2 : Nat) (Option.none : Option Jvm.ClassFile.FieldType)) ∈ tg := tgT 759 rfl rfl
set_option maxRecDepth 100000 in
theorem tw_760 : (Jvm.Cond.methodLink "BakeHouseModel" (1 : Nat) ({ cls := "java/lang/Object", name := "<init>", desc := "()V" } : Jvm.MethodName)) ∈ tg := tgT 760 rfl rfl
set_option maxRecDepth 100000 in
theorem tw_761 : (Jvm.Cond.fieldLink "BakeHouseModel" (37 : Nat) "BakeHouseModel" "thrown" "I") ∈ tg := tgT 761 rfl rfl
set_option maxRecDepth 100000 in
theorem tw_762 : (Jvm.Cond.fieldLink "BakeHouseModel" (41 : Nat) "BakeHouseModel" "many" "I") ∈ tg := tgT 762 rfl rfl
set_option maxRecDepth 100000 in
theorem tw_763 : (Jvm.Cond.fieldLink "BakeHouseModel" (7 : Nat) "BakeHouseModel" "kind" "[I") ∈ tg := tgT 763 rfl rfl
set_option maxRecDepth 100000 in
theorem tw_764 : (Jvm.Cond.fieldLink "BakeHouseModel" (13 : Nat) "BakeHouseModel" "mass" "[I") ∈ tg := tgT 764 rfl rfl
set_option maxRecDepth 100000 in
theorem tw_765 : (Jvm.Cond.fieldLink "BakeHouseModel" (16 : Nat) "BakeHouseModel" "air" "[I") ∈ tg := tgT 765 rfl rfl
set_option maxRecDepth 100000 in
theorem tw_766 : (Jvm.Cond.fieldLink "BakeHouseModel" (19 : Nat) "BakeHouseModel" "folds" "[I") ∈ tg := tgT 766 rfl rfl
set_option maxRecDepth 100000 in
theorem tw_767 : (Jvm.Cond.fieldLink "BakeHouseModel" (22 : Nat) "BakeHouseModel" "acid" "[I") ∈ tg := tgT 767 rfl rfl
set_option maxRecDepth 100000 in
theorem tw_768 : (Jvm.Cond.fieldLink "BakeHouseModel" (25 : Nat) "BakeHouseModel" "crust" "[I") ∈ tg := tgT 768 rfl rfl
set_option maxRecDepth 100000 in
theorem tw_769 : (Jvm.Cond.fieldLink "BakeHouseModel" (28 : Nat) "BakeHouseModel" "places" "[I") ∈ tg := tgT 769 rfl rfl
set_option maxRecDepth 100000 in
theorem tw_770 : (Jvm.Cond.fieldLink "BakeHouseModel" (31 : Nat) "BakeHouseModel" "lies" "[I") ∈ tg := tgT 770 rfl rfl
set_option maxRecDepth 100000 in
theorem tw_771 : (Jvm.Cond.fieldLink "BakeHouseModel" (34 : Nat) "BakeHouseModel" "book" "[I") ∈ tg := tgT 771 rfl rfl
set_option maxRecDepth 100000 in
theorem tw_772 : (Jvm.Cond.fieldLink "BakeHouseModel" (48 : Nat) "BakeHouseModel" "began" "I") ∈ tg := tgT 772 rfl rfl
set_option maxRecDepth 100000 in
theorem tw_773 : (Jvm.Cond.fieldLink "BakeHouseModel" (68 : Nat) "BakeHouseModel" "fallen" "I") ∈ tg := tgT 773 rfl rfl
set_option maxRecDepth 100000 in
theorem tw_774 : (Jvm.Cond.fieldLink "BakeHouseModel" (112 : Nat) "BakeHouseModel" "missed" "I") ∈ tg := tgT 774 rfl rfl
set_option maxRecDepth 100000 in
theorem tw_775 : (Jvm.Cond.fieldLink "BakeHouseModel" (92 : Nat) "BakeHouseModel" "divided" "I") ∈ tg := tgT 775 rfl rfl
set_option maxRecDepth 100000 in
theorem tw_776 : (Jvm.Cond.fieldLink "BakeHouseModel" (61 : Nat) "BakeHouseModel" "isFallen" "Z") ∈ tg := tgT 776 rfl rfl
set_option maxRecDepth 100000 in
theorem tw_777 : (Jvm.Cond.fieldLink "BakeHouseModel" (85 : Nat) "BakeHouseModel" "isDivided" "Z") ∈ tg := tgT 777 rfl rfl
set_option maxRecDepth 100000 in
theorem tw_778 : (Jvm.Cond.lays "BakeHouseModel" "BakeHouseModel" "thrown" "I") ∈ tg := tgT 778 rfl rfl
set_option maxRecDepth 100000 in
theorem tw_779 : (Jvm.Cond.soleField "BakeHouseModel" "thrown") ∈ tg := tgT 779 rfl rfl
set_option maxRecDepth 100000 in
theorem tw_780 : (Jvm.Cond.lays "BakeHouseModel" "BakeHouseModel" "many" "I") ∈ tg := tgT 780 rfl rfl
set_option maxRecDepth 100000 in
theorem tw_781 : (Jvm.Cond.soleField "BakeHouseModel" "many") ∈ tg := tgT 781 rfl rfl
set_option maxRecDepth 100000 in
theorem tw_782 : (Jvm.Cond.laysFinal "BakeHouseModel" "BakeHouseModel" "kind" "[I") ∈ tg := tgT 782 rfl rfl
set_option maxRecDepth 100000 in
theorem tw_783 : (Jvm.Cond.soleField "BakeHouseModel" "kind") ∈ tg := tgT 783 rfl rfl
set_option maxRecDepth 100000 in
theorem tw_784 : (Jvm.Cond.laysFinal "BakeHouseModel" "BakeHouseModel" "mass" "[I") ∈ tg := tgT 784 rfl rfl
set_option maxRecDepth 100000 in
theorem tw_785 : (Jvm.Cond.soleField "BakeHouseModel" "mass") ∈ tg := tgT 785 rfl rfl
set_option maxRecDepth 100000 in
theorem tw_786 : (Jvm.Cond.laysFinal "BakeHouseModel" "BakeHouseModel" "air" "[I") ∈ tg := tgT 786 rfl rfl
set_option maxRecDepth 100000 in
theorem tw_787 : (Jvm.Cond.soleField "BakeHouseModel" "air") ∈ tg := tgT 787 rfl rfl
set_option maxRecDepth 100000 in
theorem tw_788 : (Jvm.Cond.laysFinal "BakeHouseModel" "BakeHouseModel" "folds" "[I") ∈ tg := tgT 788 rfl rfl
set_option maxRecDepth 100000 in
theorem tw_789 : (Jvm.Cond.soleField "BakeHouseModel" "folds") ∈ tg := tgT 789 rfl rfl
set_option maxRecDepth 100000 in
theorem tw_790 : (Jvm.Cond.laysFinal "BakeHouseModel" "BakeHouseModel" "acid" "[I") ∈ tg := tgT 790 rfl rfl
set_option maxRecDepth 100000 in
theorem tw_791 : (Jvm.Cond.soleField "BakeHouseModel" "acid") ∈ tg := tgT 791 rfl rfl
set_option maxRecDepth 100000 in
theorem tw_792 : (Jvm.Cond.laysFinal "BakeHouseModel" "BakeHouseModel" "crust" "[I") ∈ tg := tgT 792 rfl rfl
set_option maxRecDepth 100000 in
theorem tw_793 : (Jvm.Cond.soleField "BakeHouseModel" "crust") ∈ tg := tgT 793 rfl rfl
set_option maxRecDepth 100000 in
theorem tw_794 : (Jvm.Cond.laysFinal "BakeHouseModel" "BakeHouseModel" "places" "[I") ∈ tg := tgT 794 rfl rfl
set_option maxRecDepth 100000 in
theorem tw_795 : (Jvm.Cond.soleField "BakeHouseModel" "places") ∈ tg := tgT 795 rfl rfl
set_option maxRecDepth 100000 in
theorem tw_796 : (Jvm.Cond.laysFinal "BakeHouseModel" "BakeHouseModel" "lies" "[I") ∈ tg := tgT 796 rfl rfl
set_option maxRecDepth 100000 in
theorem tw_797 : (Jvm.Cond.soleField "BakeHouseModel" "lies") ∈ tg := tgT 797 rfl rfl
set_option maxRecDepth 100000 in
theorem tw_798 : (Jvm.Cond.laysFinal "BakeHouseModel" "BakeHouseModel" "book" "[I") ∈ tg := tgT 798 rfl rfl
set_option maxRecDepth 100000 in
theorem tw_799 : (Jvm.Cond.soleField "BakeHouseModel" "book") ∈ tg := tgT 799 rfl rfl
set_option maxRecDepth 100000 in
theorem tw_800 : (Jvm.Cond.lays "BakeHouseModel" "BakeHouseModel" "began" "I") ∈ tg := tgT 800 rfl rfl
set_option maxRecDepth 100000 in
theorem tw_801 : (Jvm.Cond.soleField "BakeHouseModel" "began") ∈ tg := tgT 801 rfl rfl
set_option maxRecDepth 100000 in
theorem tw_802 : (Jvm.Cond.lays "BakeHouseModel" "BakeHouseModel" "fallen" "I") ∈ tg := tgT 802 rfl rfl
set_option maxRecDepth 100000 in
theorem tw_803 : (Jvm.Cond.soleField "BakeHouseModel" "fallen") ∈ tg := tgT 803 rfl rfl
set_option maxRecDepth 100000 in
theorem tw_804 : (Jvm.Cond.lays "BakeHouseModel" "BakeHouseModel" "missed" "I") ∈ tg := tgT 804 rfl rfl
set_option maxRecDepth 100000 in
theorem tw_805 : (Jvm.Cond.soleField "BakeHouseModel" "missed") ∈ tg := tgT 805 rfl rfl
set_option maxRecDepth 100000 in
theorem tw_806 : (Jvm.Cond.lays "BakeHouseModel" "BakeHouseModel" "divided" "I") ∈ tg := tgT 806 rfl rfl
set_option maxRecDepth 100000 in
theorem tw_807 : (Jvm.Cond.soleField "BakeHouseModel" "divided") ∈ tg := tgT 807 rfl rfl
set_option maxRecDepth 100000 in
theorem tw_808 : (Jvm.Cond.lays "BakeHouseModel" "BakeHouseModel" "isFallen" "Z") ∈ tg := tgT 808 rfl rfl
set_option maxRecDepth 100000 in
theorem tw_809 : (Jvm.Cond.soleField "BakeHouseModel" "isFallen") ∈ tg := tgT 809 rfl rfl
set_option maxRecDepth 100000 in
theorem tw_810 : (Jvm.Cond.lays "BakeHouseModel" "BakeHouseModel" "isDivided" "Z") ∈ tg := tgT 810 rfl rfl
set_option maxRecDepth 100000 in
theorem tw_811 : (Jvm.Cond.soleField "BakeHouseModel" "isDivided") ∈ tg := tgT 811 rfl rfl
set_option maxRecDepth 100000 in
theorem tw_812 : (Jvm.Cond.superclass "BakeHouseModel" "java/lang/Object") ∈ tg := tgT 812 rfl rfl
set_option maxRecDepth 100000 in
theorem tw_813 : (Jvm.Cond.methodLink "BakeHouseLaw" (54 : Nat) ({ cls := "BakeHouseModel", name := "thrown", desc := "()I" } : Jvm.MethodName)) ∈ tg := tgT 813 rfl rfl
set_option maxRecDepth 100000 in
theorem tw_814 : (Jvm.Cond.instanceMethod ({ cls := "BakeHouseModel", name := "thrown", desc := "()I" } : Jvm.MethodName)) ∈ tg := tgT 814 rfl rfl
set_option maxRecDepth 100000 in
theorem tw_815 : (Jvm.Cond.selects "BakeHouseModel" ({ cls := "BakeHouseModel", name := "thrown", desc := "()I" } : Jvm.MethodName) ({ cls := "BakeHouseModel", name := "thrown", desc := "()I" } : Jvm.MethodName)) ∈ tg := tgT 815 rfl rfl
set_option maxRecDepth 100000 in
theorem tw_816 : (Jvm.Cond.code ({ cls := "BakeHouseModel", name := "thrown", desc := "()I" } : Jvm.MethodName) prog_13_method_2_code (1 : Nat) (Option.some Jvm.ClassFile.FieldType.int)) ∈ tg := tgT 816 rfl rfl
set_option maxRecDepth 100000 in
theorem tw_817 : (Jvm.Cond.methodLink "BakeHouseLaw" (47 : Nat) ({ cls := "BakeHouseModel", name := "loaf", desc := "(II)I" } : Jvm.MethodName)) ∈ tg := tgT 817 rfl rfl
set_option maxRecDepth 100000 in
theorem tw_818 : (Jvm.Cond.instanceMethod ({ cls := "BakeHouseModel", name := "loaf", desc := "(II)I" } : Jvm.MethodName)) ∈ tg := tgT 818 rfl rfl
set_option maxRecDepth 100000 in
theorem tw_819 : (Jvm.Cond.selects "BakeHouseModel" ({ cls := "BakeHouseModel", name := "loaf", desc := "(II)I" } : Jvm.MethodName) ({ cls := "BakeHouseModel", name := "loaf", desc := "(II)I" } : Jvm.MethodName)) ∈ tg := tgT 819 rfl rfl
set_option maxRecDepth 100000 in
theorem tw_820 : (Jvm.Cond.code ({ cls := "BakeHouseModel", name := "loaf", desc := "(II)I" } : Jvm.MethodName) prog_13_method_21_code (3 : Nat) (Option.some Jvm.ClassFile.FieldType.int)) ∈ tg := tgT 820 rfl rfl
set_option maxRecDepth 100000 in
theorem tw_821 : (Jvm.Cond.methodLink "BakeHouseModel" (44 : Nat) ({ cls := "BakeHouseModel", name := "within", desc := "(III)Z" } : Jvm.MethodName)) ∈ tg := tgT 821 rfl rfl
set_option maxRecDepth 100000 in
theorem tw_822 : (Jvm.Cond.static ({ cls := "BakeHouseModel", name := "within", desc := "(III)Z" } : Jvm.MethodName)) ∈ tg := tgT 822 rfl rfl
set_option maxRecDepth 100000 in
theorem tw_823 : (Jvm.Cond.code ({ cls := "BakeHouseModel", name := "within", desc := "(III)Z" } : Jvm.MethodName) prog_13_method_3_code (3 : Nat) (Option.some Jvm.ClassFile.FieldType.boolean)) ∈ tg := tgT 823 rfl rfl
set_option maxRecDepth 100000 in
theorem tw_824 : (Jvm.Cond.methodLink "BakeHouseLaw" (53 : Nat) ({ cls := "BakeHouseModel", name := "shelf", desc := "(II)I" } : Jvm.MethodName)) ∈ tg := tgT 824 rfl rfl
set_option maxRecDepth 100000 in
theorem tw_825 : (Jvm.Cond.instanceMethod ({ cls := "BakeHouseModel", name := "shelf", desc := "(II)I" } : Jvm.MethodName)) ∈ tg := tgT 825 rfl rfl
set_option maxRecDepth 100000 in
theorem tw_826 : (Jvm.Cond.selects "BakeHouseModel" ({ cls := "BakeHouseModel", name := "shelf", desc := "(II)I" } : Jvm.MethodName) ({ cls := "BakeHouseModel", name := "shelf", desc := "(II)I" } : Jvm.MethodName)) ∈ tg := tgT 826 rfl rfl
set_option maxRecDepth 100000 in
theorem tw_827 : (Jvm.Cond.code ({ cls := "BakeHouseModel", name := "shelf", desc := "(II)I" } : Jvm.MethodName) prog_13_method_22_code (4 : Nat) (Option.some Jvm.ClassFile.FieldType.int)) ∈ tg := tgT 827 rfl rfl
set_option maxRecDepth 100000 in
theorem tw_828 : (Jvm.Cond.methodLink "BakeHouseModel" (98 : Nat) ({ cls := "BakeHouseModel", name := "isShelf", desc := "(I)Z" } : Jvm.MethodName)) ∈ tg := tgT 828 rfl rfl
set_option maxRecDepth 100000 in
theorem tw_829 : (Jvm.Cond.static ({ cls := "BakeHouseModel", name := "isShelf", desc := "(I)Z" } : Jvm.MethodName)) ∈ tg := tgT 829 rfl rfl
set_option maxRecDepth 100000 in
theorem tw_830 : (Jvm.Cond.code ({ cls := "BakeHouseModel", name := "isShelf", desc := "(I)Z" } : Jvm.MethodName) prog_13_method_5_code (1 : Nat) (Option.some Jvm.ClassFile.FieldType.boolean)) ∈ tg := tgT 830 rfl rfl
set_option maxRecDepth 100000 in
theorem tw_831 : (Jvm.Cond.methodLink "BakeHouseLaw" (61 : Nat) ({ cls := "BakeHouseModel", name := "out", desc := "(I)I" } : Jvm.MethodName)) ∈ tg := tgT 831 rfl rfl
set_option maxRecDepth 100000 in
theorem tw_832 : (Jvm.Cond.instanceMethod ({ cls := "BakeHouseModel", name := "out", desc := "(I)I" } : Jvm.MethodName)) ∈ tg := tgT 832 rfl rfl
set_option maxRecDepth 100000 in
theorem tw_833 : (Jvm.Cond.selects "BakeHouseModel" ({ cls := "BakeHouseModel", name := "out", desc := "(I)I" } : Jvm.MethodName) ({ cls := "BakeHouseModel", name := "out", desc := "(I)I" } : Jvm.MethodName)) ∈ tg := tgT 833 rfl rfl
set_option maxRecDepth 100000 in
theorem tw_834 : (Jvm.Cond.code ({ cls := "BakeHouseModel", name := "out", desc := "(I)I" } : Jvm.MethodName) prog_13_method_23_code (3 : Nat) (Option.some Jvm.ClassFile.FieldType.int)) ∈ tg := tgT 834 rfl rfl
set_option maxRecDepth 100000 in
theorem tw_835 : (Jvm.Cond.methodLink "BakeHouseLaw" (64 : Nat) ({ cls := "BakeHouseModel", name := "rest", desc := "(II)I" } : Jvm.MethodName)) ∈ tg := tgT 835 rfl rfl
set_option maxRecDepth 100000 in
theorem tw_836 : (Jvm.Cond.instanceMethod ({ cls := "BakeHouseModel", name := "rest", desc := "(II)I" } : Jvm.MethodName)) ∈ tg := tgT 836 rfl rfl
set_option maxRecDepth 100000 in
theorem tw_837 : (Jvm.Cond.selects "BakeHouseModel" ({ cls := "BakeHouseModel", name := "rest", desc := "(II)I" } : Jvm.MethodName) ({ cls := "BakeHouseModel", name := "rest", desc := "(II)I" } : Jvm.MethodName)) ∈ tg := tgT 837 rfl rfl
set_option maxRecDepth 100000 in
theorem tw_838 : (Jvm.Cond.code ({ cls := "BakeHouseModel", name := "rest", desc := "(II)I" } : Jvm.MethodName) prog_13_method_24_code (4 : Nat) (Option.some Jvm.ClassFile.FieldType.int)) ∈ tg := tgT 838 rfl rfl
set_option maxRecDepth 100000 in
theorem tw_839 : (Jvm.Cond.methodLink "BakeHouseModel" (102 : Nat) ({ cls := "BakeHouseModel", name := "isLoaf", desc := "(I)Z" } : Jvm.MethodName)) ∈ tg := tgT 839 rfl rfl
set_option maxRecDepth 100000 in
theorem tw_841 : (Jvm.Cond.instanceMethod ({ cls := "BakeHouseModel", name := "isLoaf", desc := "(I)Z" } : Jvm.MethodName)) ∈ tg := tgT 841 rfl rfl
set_option maxRecDepth 100000 in
theorem tw_842 : (Jvm.Cond.code ({ cls := "BakeHouseModel", name := "isLoaf", desc := "(I)Z" } : Jvm.MethodName) prog_13_method_4_code (2 : Nat) (Option.some Jvm.ClassFile.FieldType.boolean)) ∈ tg := tgT 842 rfl rfl
set_option maxRecDepth 100000 in
theorem tw_843 : (Jvm.Cond.methodLink "BakeHouseModel" (105 : Nat) ({ cls := "BakeHouseModel", name := "rests", desc := "(II)I" } : Jvm.MethodName)) ∈ tg := tgT 843 rfl rfl
set_option maxRecDepth 100000 in
theorem tw_845 : (Jvm.Cond.instanceMethod ({ cls := "BakeHouseModel", name := "rests", desc := "(II)I" } : Jvm.MethodName)) ∈ tg := tgT 845 rfl rfl
set_option maxRecDepth 100000 in
theorem tw_846 : (Jvm.Cond.code ({ cls := "BakeHouseModel", name := "rests", desc := "(II)I" } : Jvm.MethodName) prog_13_method_10_code (3 : Nat) (Option.some Jvm.ClassFile.FieldType.int)) ∈ tg := tgT 846 rfl rfl
set_option maxRecDepth 100000 in
theorem tw_847 : (Jvm.Cond.methodLink "BakeHouseModel" (58 : Nat) ({ cls := "BakeHouseModel", name := "ryeRest", desc := "(II)V" } : Jvm.MethodName)) ∈ tg := tgT 847 rfl rfl
set_option maxRecDepth 100000 in
theorem tw_849 : (Jvm.Cond.instanceMethod ({ cls := "BakeHouseModel", name := "ryeRest", desc := "(II)V" } : Jvm.MethodName)) ∈ tg := tgT 849 rfl rfl
set_option maxRecDepth 100000 in
theorem tw_850 : (Jvm.Cond.code ({ cls := "BakeHouseModel", name := "ryeRest", desc := "(II)V" } : Jvm.MethodName) prog_13_method_8_code (3 : Nat) (Option.none : Option Jvm.ClassFile.FieldType)) ∈ tg := tgT 850 rfl rfl
set_option maxRecDepth 100000 in
theorem tw_851 : (Jvm.Cond.methodLink "BakeHouseModel" (51 : Nat) ({ cls := "BakeHouseModel", name := "begin", desc := "(II)V" } : Jvm.MethodName)) ∈ tg := tgT 851 rfl rfl
set_option maxRecDepth 100000 in
theorem tw_853 : (Jvm.Cond.instanceMethod ({ cls := "BakeHouseModel", name := "begin", desc := "(II)V" } : Jvm.MethodName)) ∈ tg := tgT 853 rfl rfl
set_option maxRecDepth 100000 in
theorem tw_854 : (Jvm.Cond.code ({ cls := "BakeHouseModel", name := "begin", desc := "(II)V" } : Jvm.MethodName) prog_13_method_6_code (3 : Nat) (Option.none : Option Jvm.ClassFile.FieldType)) ∈ tg := tgT 854 rfl rfl
set_option maxRecDepth 100000 in
theorem tw_855 : (Jvm.Cond.methodLink "BakeHouseModel" (55 : Nat) ({ cls := "BakeHouseModel", name := "plainRest", desc := "(II)V" } : Jvm.MethodName)) ∈ tg := tgT 855 rfl rfl
set_option maxRecDepth 100000 in
theorem tw_857 : (Jvm.Cond.instanceMethod ({ cls := "BakeHouseModel", name := "plainRest", desc := "(II)V" } : Jvm.MethodName)) ∈ tg := tgT 857 rfl rfl
set_option maxRecDepth 100000 in
theorem tw_858 : (Jvm.Cond.code ({ cls := "BakeHouseModel", name := "plainRest", desc := "(II)V" } : Jvm.MethodName) prog_13_method_7_code (3 : Nat) (Option.none : Option Jvm.ClassFile.FieldType)) ∈ tg := tgT 858 rfl rfl
set_option maxRecDepth 100000 in
theorem tw_859 : (Jvm.Cond.methodLink "BakeHouseModel" (65 : Nat) ({ cls := "BakeHouseModel", name := "sourRest", desc := "(II)V" } : Jvm.MethodName)) ∈ tg := tgT 859 rfl rfl
set_option maxRecDepth 100000 in
theorem tw_861 : (Jvm.Cond.instanceMethod ({ cls := "BakeHouseModel", name := "sourRest", desc := "(II)V" } : Jvm.MethodName)) ∈ tg := tgT 861 rfl rfl
set_option maxRecDepth 100000 in
theorem tw_862 : (Jvm.Cond.code ({ cls := "BakeHouseModel", name := "sourRest", desc := "(II)V" } : Jvm.MethodName) prog_13_method_9_code (3 : Nat) (Option.none : Option Jvm.ClassFile.FieldType)) ∈ tg := tgT 862 rfl rfl
set_option maxRecDepth 100000 in
theorem tw_863 : (Jvm.Cond.methodLink "BakeHouseLaw" (68 : Nat) ({ cls := "BakeHouseModel", name := "fold", desc := "(I)I" } : Jvm.MethodName)) ∈ tg := tgT 863 rfl rfl
set_option maxRecDepth 100000 in
theorem tw_864 : (Jvm.Cond.instanceMethod ({ cls := "BakeHouseModel", name := "fold", desc := "(I)I" } : Jvm.MethodName)) ∈ tg := tgT 864 rfl rfl
set_option maxRecDepth 100000 in
theorem tw_865 : (Jvm.Cond.selects "BakeHouseModel" ({ cls := "BakeHouseModel", name := "fold", desc := "(I)I" } : Jvm.MethodName) ({ cls := "BakeHouseModel", name := "fold", desc := "(I)I" } : Jvm.MethodName)) ∈ tg := tgT 865 rfl rfl
set_option maxRecDepth 100000 in
theorem tw_866 : (Jvm.Cond.code ({ cls := "BakeHouseModel", name := "fold", desc := "(I)I" } : Jvm.MethodName) prog_13_method_25_code (2 : Nat) (Option.some Jvm.ClassFile.FieldType.int)) ∈ tg := tgT 866 rfl rfl
set_option maxRecDepth 100000 in
theorem tw_867 : (Jvm.Cond.methodLink "BakeHouseModel" (79 : Nat) ({ cls := "BakeHouseModel", name := "folds", desc := "(I)V" } : Jvm.MethodName)) ∈ tg := tgT 867 rfl rfl
set_option maxRecDepth 100000 in
theorem tw_869 : (Jvm.Cond.instanceMethod ({ cls := "BakeHouseModel", name := "folds", desc := "(I)V" } : Jvm.MethodName)) ∈ tg := tgT 869 rfl rfl
set_option maxRecDepth 100000 in
theorem tw_870 : (Jvm.Cond.code ({ cls := "BakeHouseModel", name := "folds", desc := "(I)V" } : Jvm.MethodName) prog_13_method_12_code (2 : Nat) (Option.none : Option Jvm.ClassFile.FieldType)) ∈ tg := tgT 870 rfl rfl
set_option maxRecDepth 100000 in
theorem tw_871 : (Jvm.Cond.methodLink "BakeHouseModel" (71 : Nat) ({ cls := "BakeHouseModel", name := "plainFold", desc := "(I)V" } : Jvm.MethodName)) ∈ tg := tgT 871 rfl rfl
set_option maxRecDepth 100000 in
theorem tw_873 : (Jvm.Cond.instanceMethod ({ cls := "BakeHouseModel", name := "plainFold", desc := "(I)V" } : Jvm.MethodName)) ∈ tg := tgT 873 rfl rfl
set_option maxRecDepth 100000 in
theorem tw_874 : (Jvm.Cond.code ({ cls := "BakeHouseModel", name := "plainFold", desc := "(I)V" } : Jvm.MethodName) prog_13_method_11_code (2 : Nat) (Option.none : Option Jvm.ClassFile.FieldType)) ∈ tg := tgT 874 rfl rfl
set_option maxRecDepth 100000 in
theorem tw_875 : (Jvm.Cond.methodLink "BakeHouseLaw" (72 : Nat) ({ cls := "BakeHouseModel", name := "lay", desc := "(III)I" } : Jvm.MethodName)) ∈ tg := tgT 875 rfl rfl
set_option maxRecDepth 100000 in
theorem tw_876 : (Jvm.Cond.instanceMethod ({ cls := "BakeHouseModel", name := "lay", desc := "(III)I" } : Jvm.MethodName)) ∈ tg := tgT 876 rfl rfl
set_option maxRecDepth 100000 in
theorem tw_877 : (Jvm.Cond.selects "BakeHouseModel" ({ cls := "BakeHouseModel", name := "lay", desc := "(III)I" } : Jvm.MethodName) ({ cls := "BakeHouseModel", name := "lay", desc := "(III)I" } : Jvm.MethodName)) ∈ tg := tgT 877 rfl rfl
set_option maxRecDepth 100000 in
theorem tw_878 : (Jvm.Cond.code ({ cls := "BakeHouseModel", name := "lay", desc := "(III)I" } : Jvm.MethodName) prog_13_method_26_code (8 : Nat) (Option.some Jvm.ClassFile.FieldType.int)) ∈ tg := tgT 878 rfl rfl
set_option maxRecDepth 100000 in
theorem tw_879 : (Jvm.Cond.methodLink "BakeHouseModel" (109 : Nat) ({ cls := "BakeHouseModel", name := "lays", desc := "(III)I" } : Jvm.MethodName)) ∈ tg := tgT 879 rfl rfl
set_option maxRecDepth 100000 in
theorem tw_881 : (Jvm.Cond.instanceMethod ({ cls := "BakeHouseModel", name := "lays", desc := "(III)I" } : Jvm.MethodName)) ∈ tg := tgT 881 rfl rfl
set_option maxRecDepth 100000 in
theorem tw_882 : (Jvm.Cond.code ({ cls := "BakeHouseModel", name := "lays", desc := "(III)I" } : Jvm.MethodName) prog_13_method_14_code (5 : Nat) (Option.some Jvm.ClassFile.FieldType.int)) ∈ tg := tgT 882 rfl rfl
set_option maxRecDepth 100000 in
theorem tw_883 : (Jvm.Cond.methodLink "BakeHouseModel" (75 : Nat) ({ cls := "BakeHouseModel", name := "plainLay", desc := "(III)I" } : Jvm.MethodName)) ∈ tg := tgT 883 rfl rfl
set_option maxRecDepth 100000 in
theorem tw_885 : (Jvm.Cond.instanceMethod ({ cls := "BakeHouseModel", name := "plainLay", desc := "(III)I" } : Jvm.MethodName)) ∈ tg := tgT 885 rfl rfl
set_option maxRecDepth 100000 in
theorem tw_886 : (Jvm.Cond.code ({ cls := "BakeHouseModel", name := "plainLay", desc := "(III)I" } : Jvm.MethodName) prog_13_method_13_code (5 : Nat) (Option.some Jvm.ClassFile.FieldType.int)) ∈ tg := tgT 886 rfl rfl
set_option maxRecDepth 100000 in
theorem tw_887 : (Jvm.Cond.methodLink "BakeHouseLaw" (76 : Nat) ({ cls := "BakeHouseModel", name := "bake", desc := "(II)I" } : Jvm.MethodName)) ∈ tg := tgT 887 rfl rfl
set_option maxRecDepth 100000 in
theorem tw_888 : (Jvm.Cond.instanceMethod ({ cls := "BakeHouseModel", name := "bake", desc := "(II)I" } : Jvm.MethodName)) ∈ tg := tgT 888 rfl rfl
set_option maxRecDepth 100000 in
theorem tw_889 : (Jvm.Cond.selects "BakeHouseModel" ({ cls := "BakeHouseModel", name := "bake", desc := "(II)I" } : Jvm.MethodName) ({ cls := "BakeHouseModel", name := "bake", desc := "(II)I" } : Jvm.MethodName)) ∈ tg := tgT 889 rfl rfl
set_option maxRecDepth 100000 in
theorem tw_890 : (Jvm.Cond.code ({ cls := "BakeHouseModel", name := "bake", desc := "(II)I" } : Jvm.MethodName) prog_13_method_27_code (3 : Nat) (Option.some Jvm.ClassFile.FieldType.int)) ∈ tg := tgT 890 rfl rfl
set_option maxRecDepth 100000 in
theorem tw_891 : (Jvm.Cond.methodLink "BakeHouseModel" (115 : Nat) ({ cls := "BakeHouseModel", name := "bakes", desc := "(II)Z" } : Jvm.MethodName)) ∈ tg := tgT 891 rfl rfl
set_option maxRecDepth 100000 in
theorem tw_893 : (Jvm.Cond.instanceMethod ({ cls := "BakeHouseModel", name := "bakes", desc := "(II)Z" } : Jvm.MethodName)) ∈ tg := tgT 893 rfl rfl
set_option maxRecDepth 100000 in
theorem tw_894 : (Jvm.Cond.code ({ cls := "BakeHouseModel", name := "bakes", desc := "(II)Z" } : Jvm.MethodName) prog_13_method_16_code (4 : Nat) (Option.some Jvm.ClassFile.FieldType.boolean)) ∈ tg := tgT 894 rfl rfl
set_option maxRecDepth 100000 in
theorem tw_895 : (Jvm.Cond.methodLink "BakeHouseModel" (81 : Nat) ({ cls := "BakeHouseModel", name := "plainBake", desc := "(II)Z" } : Jvm.MethodName)) ∈ tg := tgT 895 rfl rfl
set_option maxRecDepth 100000 in
theorem tw_897 : (Jvm.Cond.instanceMethod ({ cls := "BakeHouseModel", name := "plainBake", desc := "(II)Z" } : Jvm.MethodName)) ∈ tg := tgT 897 rfl rfl
set_option maxRecDepth 100000 in
theorem tw_898 : (Jvm.Cond.code ({ cls := "BakeHouseModel", name := "plainBake", desc := "(II)Z" } : Jvm.MethodName) prog_13_method_15_code (3 : Nat) (Option.some Jvm.ClassFile.FieldType.boolean)) ∈ tg := tgT 898 rfl rfl
set_option maxRecDepth 100000 in
theorem tw_899 : (Jvm.Cond.methodLink "BakeHouseLaw" (80 : Nat) ({ cls := "BakeHouseModel", name := "worth", desc := "(I)I" } : Jvm.MethodName)) ∈ tg := tgT 899 rfl rfl
set_option maxRecDepth 100000 in
theorem tw_900 : (Jvm.Cond.instanceMethod ({ cls := "BakeHouseModel", name := "worth", desc := "(I)I" } : Jvm.MethodName)) ∈ tg := tgT 900 rfl rfl
set_option maxRecDepth 100000 in
theorem tw_901 : (Jvm.Cond.selects "BakeHouseModel" ({ cls := "BakeHouseModel", name := "worth", desc := "(I)I" } : Jvm.MethodName) ({ cls := "BakeHouseModel", name := "worth", desc := "(I)I" } : Jvm.MethodName)) ∈ tg := tgT 901 rfl rfl
set_option maxRecDepth 100000 in
theorem tw_902 : (Jvm.Cond.code ({ cls := "BakeHouseModel", name := "worth", desc := "(I)I" } : Jvm.MethodName) prog_13_method_28_code (3 : Nat) (Option.some Jvm.ClassFile.FieldType.int)) ∈ tg := tgT 902 rfl rfl
set_option maxRecDepth 100000 in
theorem tw_903 : (Jvm.Cond.methodLink "BakeHouseModel" (95 : Nat) ({ cls := "BakeHouseModel", name := "worthOf", desc := "(I)I" } : Jvm.MethodName)) ∈ tg := tgT 903 rfl rfl
set_option maxRecDepth 100000 in
theorem tw_905 : (Jvm.Cond.instanceMethod ({ cls := "BakeHouseModel", name := "worthOf", desc := "(I)I" } : Jvm.MethodName)) ∈ tg := tgT 905 rfl rfl
set_option maxRecDepth 100000 in
theorem tw_906 : (Jvm.Cond.code ({ cls := "BakeHouseModel", name := "worthOf", desc := "(I)I" } : Jvm.MethodName) prog_13_method_18_code (2 : Nat) (Option.some Jvm.ClassFile.FieldType.int)) ∈ tg := tgT 906 rfl rfl
set_option maxRecDepth 100000 in
theorem tw_907 : (Jvm.Cond.methodLink "BakeHouseModel" (88 : Nat) ({ cls := "BakeHouseModel", name := "plainWorth", desc := "(I)I" } : Jvm.MethodName)) ∈ tg := tgT 907 rfl rfl
set_option maxRecDepth 100000 in
theorem tw_909 : (Jvm.Cond.instanceMethod ({ cls := "BakeHouseModel", name := "plainWorth", desc := "(I)I" } : Jvm.MethodName)) ∈ tg := tgT 909 rfl rfl
set_option maxRecDepth 100000 in
theorem tw_910 : (Jvm.Cond.code ({ cls := "BakeHouseModel", name := "plainWorth", desc := "(I)I" } : Jvm.MethodName) prog_13_method_17_code (2 : Nat) (Option.some Jvm.ClassFile.FieldType.int)) ∈ tg := tgT 910 rfl rfl
set_option maxRecDepth 100000 in
theorem tw_911 : (Jvm.Cond.methodLink "BakeHouseLaw" (83 : Nat) ({ cls := "BakeHouseModel", name := "cost", desc := "(I)I" } : Jvm.MethodName)) ∈ tg := tgT 911 rfl rfl
set_option maxRecDepth 100000 in
theorem tw_912 : (Jvm.Cond.instanceMethod ({ cls := "BakeHouseModel", name := "cost", desc := "(I)I" } : Jvm.MethodName)) ∈ tg := tgT 912 rfl rfl
set_option maxRecDepth 100000 in
theorem tw_913 : (Jvm.Cond.selects "BakeHouseModel" ({ cls := "BakeHouseModel", name := "cost", desc := "(I)I" } : Jvm.MethodName) ({ cls := "BakeHouseModel", name := "cost", desc := "(I)I" } : Jvm.MethodName)) ∈ tg := tgT 913 rfl rfl
set_option maxRecDepth 100000 in
theorem tw_914 : (Jvm.Cond.code ({ cls := "BakeHouseModel", name := "cost", desc := "(I)I" } : Jvm.MethodName) prog_13_method_29_code (3 : Nat) (Option.some Jvm.ClassFile.FieldType.int)) ∈ tg := tgT 914 rfl rfl
set_option maxRecDepth 100000 in
theorem tw_915 : (Jvm.Cond.methodLink "BakeHouseModel" (118 : Nat) ({ cls := "BakeHouseModel", name := "isSold", desc := "(I)Z" } : Jvm.MethodName)) ∈ tg := tgT 915 rfl rfl
set_option maxRecDepth 100000 in
theorem tw_917 : (Jvm.Cond.instanceMethod ({ cls := "BakeHouseModel", name := "isSold", desc := "(I)Z" } : Jvm.MethodName)) ∈ tg := tgT 917 rfl rfl
set_option maxRecDepth 100000 in
theorem tw_918 : (Jvm.Cond.code ({ cls := "BakeHouseModel", name := "isSold", desc := "(I)Z" } : Jvm.MethodName) prog_13_method_19_code (2 : Nat) (Option.some Jvm.ClassFile.FieldType.boolean)) ∈ tg := tgT 918 rfl rfl
set_option maxRecDepth 100000 in
theorem tw_919 : (Jvm.Cond.methodLink "BakeHouseModel" (121 : Nat) ({ cls := "BakeHouseModel", name := "costOf", desc := "(I)I" } : Jvm.MethodName)) ∈ tg := tgT 919 rfl rfl
set_option maxRecDepth 100000 in
theorem tw_921 : (Jvm.Cond.instanceMethod ({ cls := "BakeHouseModel", name := "costOf", desc := "(I)I" } : Jvm.MethodName)) ∈ tg := tgT 921 rfl rfl
set_option maxRecDepth 100000 in
theorem tw_922 : (Jvm.Cond.code ({ cls := "BakeHouseModel", name := "costOf", desc := "(I)I" } : Jvm.MethodName) prog_13_method_20_code (3 : Nat) (Option.some Jvm.ClassFile.FieldType.int)) ∈ tg := tgT 922 rfl rfl
set_option maxRecDepth 100000 in
theorem tw_923 : (Jvm.Cond.methodLink "BakeHouseLaw" (86 : Nat) ({ cls := "BakeHouseModel", name := "change", desc := "(II)I" } : Jvm.MethodName)) ∈ tg := tgT 923 rfl rfl
set_option maxRecDepth 100000 in
theorem tw_924 : (Jvm.Cond.instanceMethod ({ cls := "BakeHouseModel", name := "change", desc := "(II)I" } : Jvm.MethodName)) ∈ tg := tgT 924 rfl rfl
set_option maxRecDepth 100000 in
theorem tw_925 : (Jvm.Cond.selects "BakeHouseModel" ({ cls := "BakeHouseModel", name := "change", desc := "(II)I" } : Jvm.MethodName) ({ cls := "BakeHouseModel", name := "change", desc := "(II)I" } : Jvm.MethodName)) ∈ tg := tgT 925 rfl rfl
set_option maxRecDepth 100000 in
theorem tw_926 : (Jvm.Cond.code ({ cls := "BakeHouseModel", name := "change", desc := "(II)I" } : Jvm.MethodName) prog_13_method_30_code (4 : Nat) (Option.some Jvm.ClassFile.FieldType.int)) ∈ tg := tgT 926 rfl rfl
set_option maxRecDepth 100000 in
theorem tw_927 : (Jvm.Cond.constant "BakeHouseModel" (124 : Nat) (100000 : Int32)) ∈ tg := tgT 927 rfl rfl
set_option maxRecDepth 100000 in
theorem tw_928 : (Jvm.Cond.methodLink "BakeHouseLaw" (90 : Nat) ({ cls := "BakeHouseModel", name := "fire", desc := "(I)I" } : Jvm.MethodName)) ∈ tg := tgT 928 rfl rfl
set_option maxRecDepth 100000 in
theorem tw_929 : (Jvm.Cond.instanceMethod ({ cls := "BakeHouseModel", name := "fire", desc := "(I)I" } : Jvm.MethodName)) ∈ tg := tgT 929 rfl rfl
set_option maxRecDepth 100000 in
theorem tw_930 : (Jvm.Cond.selects "BakeHouseModel" ({ cls := "BakeHouseModel", name := "fire", desc := "(I)I" } : Jvm.MethodName) ({ cls := "BakeHouseModel", name := "fire", desc := "(I)I" } : Jvm.MethodName)) ∈ tg := tgT 930 rfl rfl
set_option maxRecDepth 100000 in
theorem tw_931 : (Jvm.Cond.code ({ cls := "BakeHouseModel", name := "fire", desc := "(I)I" } : Jvm.MethodName) prog_13_method_31_code (6 : Nat) (Option.some Jvm.ClassFile.FieldType.int)) ∈ tg := tgT 931 rfl rfl
set_option maxRecDepth 100000 in
theorem tw_932 : (Jvm.Cond.methodLink "BakeHouseLaw" (94 : Nat) ({ cls := "BakeHouseModel", name := "night", desc := "(I)I" } : Jvm.MethodName)) ∈ tg := tgT 932 rfl rfl
set_option maxRecDepth 100000 in
theorem tw_933 : (Jvm.Cond.instanceMethod ({ cls := "BakeHouseModel", name := "night", desc := "(I)I" } : Jvm.MethodName)) ∈ tg := tgT 933 rfl rfl
set_option maxRecDepth 100000 in
theorem tw_934 : (Jvm.Cond.selects "BakeHouseModel" ({ cls := "BakeHouseModel", name := "night", desc := "(I)I" } : Jvm.MethodName) ({ cls := "BakeHouseModel", name := "night", desc := "(I)I" } : Jvm.MethodName)) ∈ tg := tgT 934 rfl rfl
set_option maxRecDepth 100000 in
theorem tw_935 : (Jvm.Cond.code ({ cls := "BakeHouseModel", name := "night", desc := "(I)I" } : Jvm.MethodName) prog_13_method_32_code (5 : Nat) (Option.some Jvm.ClassFile.FieldType.int)) ∈ tg := tgT 935 rfl rfl
set_option maxRecDepth 100000 in
theorem tw_936 : (Jvm.Cond.methodLink "BakeHouseLaw" (98 : Nat) ({ cls := "BakeHouseModel", name := "at", desc := "(II)I" } : Jvm.MethodName)) ∈ tg := tgT 936 rfl rfl
set_option maxRecDepth 100000 in
theorem tw_937 : (Jvm.Cond.instanceMethod ({ cls := "BakeHouseModel", name := "at", desc := "(II)I" } : Jvm.MethodName)) ∈ tg := tgT 937 rfl rfl
set_option maxRecDepth 100000 in
theorem tw_938 : (Jvm.Cond.selects "BakeHouseModel" ({ cls := "BakeHouseModel", name := "at", desc := "(II)I" } : Jvm.MethodName) ({ cls := "BakeHouseModel", name := "at", desc := "(II)I" } : Jvm.MethodName)) ∈ tg := tgT 938 rfl rfl
set_option maxRecDepth 100000 in
theorem tw_939 : (Jvm.Cond.code ({ cls := "BakeHouseModel", name := "at", desc := "(II)I" } : Jvm.MethodName) prog_13_method_33_code (3 : Nat) (Option.some Jvm.ClassFile.FieldType.int)) ∈ tg := tgT 939 rfl rfl
set_option maxRecDepth 100000 in
theorem tw_940 : (Jvm.Cond.methodLink "BakeHouseLaw" (102 : Nat) ({ cls := "BakeHouseModel", name := "places", desc := "(I)I" } : Jvm.MethodName)) ∈ tg := tgT 940 rfl rfl
set_option maxRecDepth 100000 in
theorem tw_941 : (Jvm.Cond.instanceMethod ({ cls := "BakeHouseModel", name := "places", desc := "(I)I" } : Jvm.MethodName)) ∈ tg := tgT 941 rfl rfl
set_option maxRecDepth 100000 in
theorem tw_942 : (Jvm.Cond.selects "BakeHouseModel" ({ cls := "BakeHouseModel", name := "places", desc := "(I)I" } : Jvm.MethodName) ({ cls := "BakeHouseModel", name := "places", desc := "(I)I" } : Jvm.MethodName)) ∈ tg := tgT 942 rfl rfl
set_option maxRecDepth 100000 in
theorem tw_943 : (Jvm.Cond.code ({ cls := "BakeHouseModel", name := "places", desc := "(I)I" } : Jvm.MethodName) prog_13_method_34_code (2 : Nat) (Option.some Jvm.ClassFile.FieldType.int)) ∈ tg := tgT 943 rfl rfl
set_option maxRecDepth 100000 in
theorem tw_944 : (Jvm.Cond.methodLink "BakeHouseLaw" (106 : Nat) ({ cls := "BakeHouseModel", name := "tell", desc := "(II)I" } : Jvm.MethodName)) ∈ tg := tgT 944 rfl rfl
set_option maxRecDepth 100000 in
theorem tw_945 : (Jvm.Cond.instanceMethod ({ cls := "BakeHouseModel", name := "tell", desc := "(II)I" } : Jvm.MethodName)) ∈ tg := tgT 945 rfl rfl
set_option maxRecDepth 100000 in
theorem tw_946 : (Jvm.Cond.selects "BakeHouseModel" ({ cls := "BakeHouseModel", name := "tell", desc := "(II)I" } : Jvm.MethodName) ({ cls := "BakeHouseModel", name := "tell", desc := "(II)I" } : Jvm.MethodName)) ∈ tg := tgT 946 rfl rfl
set_option maxRecDepth 100000 in
theorem tw_947 : (Jvm.Cond.code ({ cls := "BakeHouseModel", name := "tell", desc := "(II)I" } : Jvm.MethodName) prog_13_method_35_code (3 : Nat) (Option.some Jvm.ClassFile.FieldType.int)) ∈ tg := tgT 947 rfl rfl
set_option maxRecDepth 100000 in
theorem tw_948 : (Jvm.Cond.methodLink "BakeHouseLaw" (110 : Nat) ({ cls := "BakeHouseModel", name := "book", desc := "(I)I" } : Jvm.MethodName)) ∈ tg := tgT 948 rfl rfl
set_option maxRecDepth 100000 in
theorem tw_949 : (Jvm.Cond.instanceMethod ({ cls := "BakeHouseModel", name := "book", desc := "(I)I" } : Jvm.MethodName)) ∈ tg := tgT 949 rfl rfl
set_option maxRecDepth 100000 in
theorem tw_950 : (Jvm.Cond.selects "BakeHouseModel" ({ cls := "BakeHouseModel", name := "book", desc := "(I)I" } : Jvm.MethodName) ({ cls := "BakeHouseModel", name := "book", desc := "(I)I" } : Jvm.MethodName)) ∈ tg := tgT 950 rfl rfl
set_option maxRecDepth 100000 in
theorem tw_951 : (Jvm.Cond.code ({ cls := "BakeHouseModel", name := "book", desc := "(I)I" } : Jvm.MethodName) prog_13_method_36_code (2 : Nat) (Option.some Jvm.ClassFile.FieldType.int)) ∈ tg := tgT 951 rfl rfl
set_option maxRecDepth 100000 in
theorem tw_952 : (Jvm.Cond.methodLink "BakeHouseLaw" (114 : Nat) ({ cls := "BakeHouseModel", name := "count", desc := "(I)I" } : Jvm.MethodName)) ∈ tg := tgT 952 rfl rfl
set_option maxRecDepth 100000 in
theorem tw_953 : (Jvm.Cond.instanceMethod ({ cls := "BakeHouseModel", name := "count", desc := "(I)I" } : Jvm.MethodName)) ∈ tg := tgT 953 rfl rfl
set_option maxRecDepth 100000 in
theorem tw_954 : (Jvm.Cond.selects "BakeHouseModel" ({ cls := "BakeHouseModel", name := "count", desc := "(I)I" } : Jvm.MethodName) ({ cls := "BakeHouseModel", name := "count", desc := "(I)I" } : Jvm.MethodName)) ∈ tg := tgT 954 rfl rfl
set_option maxRecDepth 100000 in
theorem tw_955 : (Jvm.Cond.code ({ cls := "BakeHouseModel", name := "count", desc := "(I)I" } : Jvm.MethodName) prog_13_method_37_code (2 : Nat) (Option.some Jvm.ClassFile.FieldType.int)) ∈ tg := tgT 955 rfl rfl
set_option maxRecDepth 100000 in
theorem tw_956 : (Jvm.Cond.arrayClass Jvm.ClassFile.FieldType.long) ∈ tg := tgT 956 rfl rfl
set_option maxRecDepth 100000 in
theorem tw_957 : (Jvm.Cond.sameMethod "BakeHouse$Rye" "BakeHouse$Rye" "doBake" "(I)Z") ∈ tg := tgT 957 rfl rfl
set_option maxRecDepth 100000 in
theorem tw_958 : (Jvm.Cond.sameMethod "java/lang/Throwable" "java/lang/Throwable" "fillInStackTrace" "(I)Ljava/lang/Throwable;") ∈ tg := tgT 958 rfl rfl
set_option maxRecDepth 100000 in
theorem tw_959 : (Jvm.Cond.sameMethod "BakeHouse$Sour" "BakeHouse$Sour" "doRest" "(I)I") ∈ tg := tgT 959 rfl rfl
set_option maxRecDepth 100000 in
theorem tw_960 : (Jvm.Cond.sameMethod "BakeHouse$Rye" "BakeHouse$Rye" "doRest" "(I)I") ∈ tg := tgT 960 rfl rfl
set_option maxRecDepth 100000 in
theorem tw_961 : (Jvm.Cond.sameMethod "BakeHouse$Sour" "BakeHouse$Sour" "askWorth" "()I") ∈ tg := tgT 961 rfl rfl
theorem ts_0 : Cond.selects "BakeHouse" ⟨"BakeHouse", "knead", "(III)LBakeHouse$Dough;"⟩ ⟨"BakeHouse", "knead", "(III)LBakeHouse$Dough;"⟩ ∈ tg := tgS 0 rfl rfl
theorem ts_1 : Cond.selects "BakeHouse" ⟨"BakeHouse", "findShelf", "(I)LBakeHouse$Shelf;"⟩ ⟨"BakeHouse", "findShelf", "(I)LBakeHouse$Shelf;"⟩ ∈ tg := tgS 1 rfl rfl
theorem ts_2 : Cond.selects "BakeHouse" ⟨"BakeHouse", "findLoaf", "(I)LBakeHouse$Dough;"⟩ ⟨"BakeHouse", "findLoaf", "(I)LBakeHouse$Dough;"⟩ ∈ tg := tgS 2 rfl rfl
theorem ts_3 : Cond.selects "BakeHouse" ⟨"BakeHouse", "bakeShelf", "(LBakeHouse$Shelf;I)I"⟩ ⟨"BakeHouse", "bakeShelf", "(LBakeHouse$Shelf;I)I"⟩ ∈ tg := tgS 3 rfl rfl
theorem ts_4 : Cond.selects "java/lang/NullPointerException" ⟨"java/lang/NullPointerException", "getExtendedNPEMessage", "()Ljava/lang/String;"⟩ ⟨"java/lang/NullPointerException", "getExtendedNPEMessage", "()Ljava/lang/String;"⟩ ∈ tg := tgS 4 rfl rfl
theorem ts_5 : Cond.selects "java/lang/Throwable" ⟨"java/lang/Throwable", "fillInStackTrace", "(I)Ljava/lang/Throwable;"⟩ ⟨"java/lang/Throwable", "fillInStackTrace", "(I)Ljava/lang/Throwable;"⟩ ∈ tg := tgS 5 rfl rfl
theorem ts_6 : Cond.selects "BakeHouse" ⟨"BakeHouse", "placesOfLoaf", "(I)I"⟩ ⟨"BakeHouse", "placesOfLoaf", "(I)I"⟩ ∈ tg := tgS 6 rfl rfl
theorem ts_7 : Cond.selects "BakeHouseModel" ⟨"BakeHouseModel", "isLoaf", "(I)Z"⟩ ⟨"BakeHouseModel", "isLoaf", "(I)Z"⟩ ∈ tg := tgS 7 rfl rfl
theorem ts_8 : Cond.selects "BakeHouseModel" ⟨"BakeHouseModel", "rests", "(II)I"⟩ ⟨"BakeHouseModel", "rests", "(II)I"⟩ ∈ tg := tgS 8 rfl rfl
theorem ts_9 : Cond.selects "BakeHouseModel" ⟨"BakeHouseModel", "ryeRest", "(II)V"⟩ ⟨"BakeHouseModel", "ryeRest", "(II)V"⟩ ∈ tg := tgS 9 rfl rfl
theorem ts_10 : Cond.selects "BakeHouseModel" ⟨"BakeHouseModel", "begin", "(II)V"⟩ ⟨"BakeHouseModel", "begin", "(II)V"⟩ ∈ tg := tgS 10 rfl rfl
theorem ts_11 : Cond.selects "BakeHouseModel" ⟨"BakeHouseModel", "plainRest", "(II)V"⟩ ⟨"BakeHouseModel", "plainRest", "(II)V"⟩ ∈ tg := tgS 11 rfl rfl
theorem ts_12 : Cond.selects "BakeHouseModel" ⟨"BakeHouseModel", "sourRest", "(II)V"⟩ ⟨"BakeHouseModel", "sourRest", "(II)V"⟩ ∈ tg := tgS 12 rfl rfl
theorem ts_13 : Cond.selects "BakeHouseModel" ⟨"BakeHouseModel", "folds", "(I)V"⟩ ⟨"BakeHouseModel", "folds", "(I)V"⟩ ∈ tg := tgS 13 rfl rfl
theorem ts_14 : Cond.selects "BakeHouseModel" ⟨"BakeHouseModel", "plainFold", "(I)V"⟩ ⟨"BakeHouseModel", "plainFold", "(I)V"⟩ ∈ tg := tgS 14 rfl rfl
theorem ts_15 : Cond.selects "BakeHouseModel" ⟨"BakeHouseModel", "lays", "(III)I"⟩ ⟨"BakeHouseModel", "lays", "(III)I"⟩ ∈ tg := tgS 15 rfl rfl
theorem ts_16 : Cond.selects "BakeHouseModel" ⟨"BakeHouseModel", "plainLay", "(III)I"⟩ ⟨"BakeHouseModel", "plainLay", "(III)I"⟩ ∈ tg := tgS 16 rfl rfl
theorem ts_17 : Cond.selects "BakeHouseModel" ⟨"BakeHouseModel", "bakes", "(II)Z"⟩ ⟨"BakeHouseModel", "bakes", "(II)Z"⟩ ∈ tg := tgS 17 rfl rfl
theorem ts_18 : Cond.selects "BakeHouseModel" ⟨"BakeHouseModel", "plainBake", "(II)Z"⟩ ⟨"BakeHouseModel", "plainBake", "(II)Z"⟩ ∈ tg := tgS 18 rfl rfl
theorem ts_19 : Cond.selects "BakeHouseModel" ⟨"BakeHouseModel", "worthOf", "(I)I"⟩ ⟨"BakeHouseModel", "worthOf", "(I)I"⟩ ∈ tg := tgS 19 rfl rfl
theorem ts_20 : Cond.selects "BakeHouseModel" ⟨"BakeHouseModel", "plainWorth", "(I)I"⟩ ⟨"BakeHouseModel", "plainWorth", "(I)I"⟩ ∈ tg := tgS 20 rfl rfl
theorem ts_21 : Cond.selects "BakeHouseModel" ⟨"BakeHouseModel", "isSold", "(I)Z"⟩ ⟨"BakeHouseModel", "isSold", "(I)Z"⟩ ∈ tg := tgS 21 rfl rfl
theorem ts_22 : Cond.selects "BakeHouseModel" ⟨"BakeHouseModel", "costOf", "(I)I"⟩ ⟨"BakeHouseModel", "costOf", "(I)I"⟩ ∈ tg := tgS 22 rfl rfl
end
section
theorem i100 : (100 : Int32) = nI 100 := rfl
theorem nx_of {N : Nat} : nx N = nI (if N = 0 then 0 else (N - 1) % 100 + 1) := by
  unfold nx; split <;> rfl
theorem nx_le {N : Nat} : (if N = 0 then 0 else (N - 1) % 100 + 1) ≤ 100 := by
  split <;> omega
theorem nx_lt0 {N : Nat} : ¬ nx N < 0 := by rw [nx_of]; exact nI_pos (by have := @nx_le N; omega)
theorem nx_lt {N : Nat} : nx N < 100 ↔ (if N = 0 then 0 else (N - 1) % 100 + 1) < 100 := by
  rw [nx_of, i100]; exact nI_ltI (by have := @nx_le N; omega) (by decide)
theorem nx_a {N : Nat} (h : nx N < 100) : nx N = nI (N % 100) := by
  rw [nx_lt] at h
  rw [nx_of]
  congr 1
  split at h <;> rename_i h0
  · rw [if_pos h0, h0]
  · rw [if_neg h0]; omega
theorem nx_b {N : Nat} (h : ¬ nx N < 100) : N % 100 = 0 := by
  rw [nx_lt] at h
  split at h <;> rename_i h0
  · omega
  · omega
theorem nx_s {N : Nat} : nI (N % 100) + 1 = nx (N + 1) := by
  rw [nI_1, nx_of, if_neg (by omega)]; rfl
theorem kp_le {N : Nat} : 100 ≤ kp N ↔ 100 ≤ N := by
  unfold kp; rw [i100, nI_leI (by decide) (by omega)]; omega
theorem kp_a {N : Nat} (h : 100 ≤ kp N) : kp (N + 1) = kp N := by
  rw [kp_le] at h; unfold kp; congr 1; omega
theorem kp_b {N : Nat} (h : ¬ 100 ≤ kp N) : kp N + 1 = kp (N + 1) := by
  rw [kp_le] at h; unfold kp; rw [nI_1]; congr 1; omega
def kwB (G : Nat → Nat) (Q : Nat → ClassId) (σ : St) (v : Int32 × Int32 × Int32 × (Nat → Int32)) : va_W := [
  (G 0, .inr (2, [.ref (G 1), .ref (G 3), .ref (G 4), .int (nI (s_n σ))])),
  (G 1, .inr (0, [.ref (G 2), .int v.1, .int v.2.1, .int v.2.2.1, .int (s_c σ 4), .int (s_c σ 5), .int (s_c σ 6)])),
  (G 2, arI (Q 0) 100 v.2.2.2),
  (G 3, arR (Q 1) 4 (fun k => if k < 4 then some (G (5 + k)) else none)),
  (G 4, arR (Q 2) 20 (fun i => if i < s_n σ then some (s_a σ i) else none)),
  (G 5, .inr (1, [.ref (G 9), .int (s_z σ 0)])),
  (G 6, .inr (1, [.ref (G 10), .int (s_z σ 1)])),
  (G 7, .inr (1, [.ref (G 11), .int (s_z σ 2)])),
  (G 8, .inr (1, [.ref (G 12), .int (s_z σ 3)])),
  (G 9, arI (Q 0) 8 (s_r σ 0)),
  (G 10, arI (Q 0) 8 (s_r σ 1)),
  (G 11, arI (Q 0) 8 (s_r σ 2)),
  (G 12, arI (Q 0) 8 (s_r σ 3))] ++ kLv (G 1) σ
theorem kwB_beg {G : Nat → Nat} {Q : Nat → ClassId} {σ : St} {a k v1 v2 v3 : Int32} {g : Nat → Int32} (h1 : v1 = nx (s_N σ + 1)) (h2 : v2 = kp (s_N σ + 1)) (h3 : v3 = nI (s_N σ + 1)) (hg : g = upd (s_g σ) (s_N σ % 100) (10 * a + k)) : kwB G Q σ (v1, v2, v3, g) = kw G Q (sBeg a k σ) := by
  subst h1; subst h2; subst h3; subst hg; rfl
/-- within, as a number -/
def wth (v a b : Int32) : Int32 := if a ≤ v ∧ v ≤ b then 1 else 0
theorem wth_nar {v a b : Int32} : narrow .boolean (.int (wth v a b)) = .int (wth v a b) := by unfold wth; split <;> rfl
theorem wth_1 {v a b : Int32} (h1 : a ≤ v) (h2 : v ≤ b) : (1 : Int32) = wth v a b := by simp [wth, h1, h2]
theorem wth_0a {v a b : Int32} (h1 : ¬ a ≤ v) : (0 : Int32) = wth v a b := by simp [wth, h1]
theorem wth_0b {v a b : Int32} (h1 : ¬ v ≤ b) : (0 : Int32) = wth v a b := by simp [wth, h1]
theorem wth_eq0 {v a b : Int32} : wth v a b = 0 ↔ ¬ (a ≤ v ∧ v ≤ b) := by unfold wth; split <;> simp_all
theorem i32_lt {x y : Int32} : x < y ↔ ¬ y ≤ x := by rw [Int32.not_le]
end
section
set_option maxHeartbeats 4000000 in
set_option maxRecDepth 100000 in
theorem c_X0_begin (l : Launch) (D : va_G) (G : Nat → Nat) (Q : Nat → ClassId) (σ : St) (a k : Int32) : MV l yX0_begin cX0_begin 3 ({ frames := 0, cells := 0, slots := 0, locals := 0 }) D cls (tyl Q) [.ref (G 1), .int a, .int k] (kw G Q) (kw G Q σ) (fun u => u = sBeg a k σ) 0 0 := by
  refine MV_of (by decide) (Nat.le_of_ble_eq_true rfl) ?_
  intro p e s m args below meth c A ls cx hw hl
  have hl : lv_has ls 3 [(0, .ref (G 1)), (1, .int a), (2, .int k)] := hl
  have hw : Wd D cls A s s.heap [] (kwB G Q σ (nx (s_N σ), kp (s_N σ), nI (s_N σ), s_g σ)) := hw
  refine lv_aload_n cx.x cx.b dX0_begin_0 rfl (lv_at hl 0 rfl) ?_
  refine gt_f (v := .int (nx (s_N σ))) cx hw 1 rfl rfl inX0 1 (by decide) tw_39 ⟨rfl, rfl, Or.inl rfl⟩ rfl dX0_begin_1 ?_
  refine lv_if_lt (tgt := 16) cx.x cx.b dX0_begin_4 (by decide) (fun hb4 => absurd hb4 nx_lt0) (fun hb4 => ?_)
  refine lv_aload_n cx.x cx.b dX0_begin_7 rfl (lv_at hl 0 rfl) ?_
  refine gt_f (v := .int (nx (s_N σ))) cx hw 1 rfl rfl inX0 1 (by decide) tw_39 ⟨rfl, rfl, Or.inl rfl⟩ rfl dX0_begin_8 ?_
  refine lv_bipush (v := 100) cx.x cx.b dX0_begin_11 (by decide) ?_
  refine lv_icmp_lt (tgt := 21) cx.x cx.b dX0_begin_13 (by decide) (fun hb13 => ?_) (fun hb13 => ?_)
  · refine lv_aload_n cx.x cx.b dX0_begin_21 rfl (lv_at hl 0 rfl) ?_
    refine gt_f (v := .ref (G 2)) cx hw 1 rfl rfl inX0 0 (by decide) tw_38 ⟨rfl, rfl, Or.inl rfl⟩ rfl dX0_begin_22 ?_
    refine lv_aload_n cx.x cx.b dX0_begin_25 rfl (lv_at hl 0 rfl) ?_
    refine gt_f (v := .int (nx (s_N σ))) cx hw 1 rfl rfl inX0 1 (by decide) tw_39 ⟨rfl, rfl, Or.inl rfl⟩ rfl dX0_begin_26 ?_
    refine lv_bipush (v := 10) cx.x cx.b dX0_begin_29 (by decide) ?_
    refine lv_iload_n cx.x cx.b dX0_begin_31 rfl (lv_at hl 1 rfl) ?_
    refine lv_imul cx.x cx.b dX0_begin_32 ?_
    refine lv_iload_n cx.x cx.b dX0_begin_33 rfl (lv_at hl 2 rfl) ?_
    refine lv_iadd cx.x cx.b dX0_begin_34 ?_
    refine ast_i (f := s_g σ) cx hw 2 0 rfl rfl (s_N σ % 100) (nx_a hb13) (Nat.mod_lt _ (by decide)) (by decide) dX0_begin_35 (w1 := kwB G Q σ (nx (s_N σ), kp (s_N σ), nI (s_N σ), upd (s_g σ) (s_N σ % 100) ((10 * a) + k))) rfl (fun H locs hw => ?_)
    refine lv_aload_n cx.x cx.b dX0_begin_36 rfl (lv_at hl 0 rfl) ?_
    refine lv_dup cx.x cx.b dX0_begin_37 rfl ?_
    refine gt_f (v := .int (nx (s_N σ))) cx hw 1 rfl rfl inX0 1 (by decide) tw_39 ⟨rfl, rfl, Or.inl rfl⟩ rfl dX0_begin_38 ?_
    refine lv_iconst (v := 1) cx.x cx.b dX0_begin_41 (by decide) ?_
    refine lv_iadd cx.x cx.b dX0_begin_42 ?_
    refine pt_f cx hw 1 rfl rfl inX0 tyX0 tyX0_ok nmX0 1 (by decide) tw_39 ⟨rfl, rfl, Or.inl rfl⟩ rfl rfl rfl rfl (Nat.le_of_ble_eq_true rfl) dX0_begin_43 (w1 := kwB G Q σ (((nx (s_N σ)) + 1), kp (s_N σ), nI (s_N σ), upd (s_g σ) (s_N σ % 100) ((10 * a) + k))) rfl (fun H locs hw => ?_)
    refine lv_aload_n cx.x cx.b dX0_begin_46 rfl (lv_at hl 0 rfl) ?_
    refine gt_f (v := .int (kp (s_N σ))) cx hw 1 rfl rfl inX0 2 (by decide) tw_40 ⟨rfl, rfl, Or.inl rfl⟩ rfl dX0_begin_47 ?_
    refine lv_bipush (v := 100) cx.x cx.b dX0_begin_50 (by decide) ?_
    refine lv_icmp_ge (tgt := 65) cx.x cx.b dX0_begin_52 (by decide) (fun hb52 => ?_) (fun hb52 => ?_)
    · refine lv_aload_n cx.x cx.b dX0_begin_65 rfl (lv_at hl 0 rfl) ?_
      refine lv_dup cx.x cx.b dX0_begin_66 rfl ?_
      refine gt_f (v := .int (nI (s_N σ))) cx hw 1 rfl rfl inX0 3 (by decide) tw_41 ⟨rfl, rfl, Or.inl rfl⟩ rfl dX0_begin_67 ?_
      refine lv_iconst (v := 1) cx.x cx.b dX0_begin_70 (by decide) ?_
      refine lv_iadd cx.x cx.b dX0_begin_71 ?_
      refine pt_f cx hw 1 rfl rfl inX0 tyX0 tyX0_ok nmX0 3 (by decide) tw_41 ⟨rfl, rfl, Or.inl rfl⟩ rfl rfl rfl rfl (Nat.le_of_ble_eq_true rfl) dX0_begin_72 (w1 := kwB G Q σ (((nx (s_N σ)) + 1), kp (s_N σ), ((nI (s_N σ)) + 1), upd (s_g σ) (s_N σ % 100) ((10 * a) + k))) rfl (fun H locs hw => ?_)
      rw [kwB_beg (a := a) (k := k) (by rw [nx_a hb13]; exact nx_s) (kp_a hb52).symm (nI_1 _) rfl] at hw
      exact ret_v (sBeg a k σ) cx hw rfl dX0_begin_75 (Nat.le_of_ble_eq_true rfl) (Nat.le_of_ble_eq_true rfl)
    · refine lv_aload_n cx.x cx.b dX0_begin_55 rfl (lv_at hl 0 rfl) ?_
      refine lv_dup cx.x cx.b dX0_begin_56 rfl ?_
      refine gt_f (v := .int (kp (s_N σ))) cx hw 1 rfl rfl inX0 2 (by decide) tw_40 ⟨rfl, rfl, Or.inl rfl⟩ rfl dX0_begin_57 ?_
      refine lv_iconst (v := 1) cx.x cx.b dX0_begin_60 (by decide) ?_
      refine lv_iadd cx.x cx.b dX0_begin_61 ?_
      refine pt_f cx hw 1 rfl rfl inX0 tyX0 tyX0_ok nmX0 2 (by decide) tw_40 ⟨rfl, rfl, Or.inl rfl⟩ rfl rfl rfl rfl (Nat.le_of_ble_eq_true rfl) dX0_begin_62 (w1 := kwB G Q σ (((nx (s_N σ)) + 1), ((kp (s_N σ)) + 1), nI (s_N σ), upd (s_g σ) (s_N σ % 100) ((10 * a) + k))) rfl (fun H locs hw => ?_)
      refine lv_aload_n cx.x cx.b dX0_begin_65 rfl (lv_at hl 0 rfl) ?_
      refine lv_dup cx.x cx.b dX0_begin_66 rfl ?_
      refine gt_f (v := .int (nI (s_N σ))) cx hw 1 rfl rfl inX0 3 (by decide) tw_41 ⟨rfl, rfl, Or.inl rfl⟩ rfl dX0_begin_67 ?_
      refine lv_iconst (v := 1) cx.x cx.b dX0_begin_70 (by decide) ?_
      refine lv_iadd cx.x cx.b dX0_begin_71 ?_
      refine pt_f cx hw 1 rfl rfl inX0 tyX0 tyX0_ok nmX0 3 (by decide) tw_41 ⟨rfl, rfl, Or.inl rfl⟩ rfl rfl rfl rfl (Nat.le_of_ble_eq_true rfl) dX0_begin_72 (w1 := kwB G Q σ (((nx (s_N σ)) + 1), ((kp (s_N σ)) + 1), ((nI (s_N σ)) + 1), upd (s_g σ) (s_N σ % 100) ((10 * a) + k))) rfl (fun H locs hw => ?_)
      rw [kwB_beg (a := a) (k := k) (by rw [nx_a hb13]; exact nx_s) (kp_b hb52) (nI_1 _) rfl] at hw
      exact ret_v (sBeg a k σ) cx hw rfl dX0_begin_75 (Nat.le_of_ble_eq_true rfl) (Nat.le_of_ble_eq_true rfl)
  · refine lv_aload_n cx.x cx.b dX0_begin_16 rfl (lv_at hl 0 rfl) ?_
    refine lv_iconst (v := 0) cx.x cx.b dX0_begin_17 (by decide) ?_
    refine pt_f cx hw 1 rfl rfl inX0 tyX0 tyX0_ok nmX0 1 (by decide) tw_39 ⟨rfl, rfl, Or.inl rfl⟩ rfl rfl rfl rfl (Nat.le_of_ble_eq_true rfl) dX0_begin_18 (w1 := kwB G Q σ (0, kp (s_N σ), nI (s_N σ), s_g σ)) rfl (fun H locs hw => ?_)
    refine lv_aload_n cx.x cx.b dX0_begin_21 rfl (lv_at hl 0 rfl) ?_
    refine gt_f (v := .ref (G 2)) cx hw 1 rfl rfl inX0 0 (by decide) tw_38 ⟨rfl, rfl, Or.inl rfl⟩ rfl dX0_begin_22 ?_
    refine lv_aload_n cx.x cx.b dX0_begin_25 rfl (lv_at hl 0 rfl) ?_
    refine gt_f (v := .int 0) cx hw 1 rfl rfl inX0 1 (by decide) tw_39 ⟨rfl, rfl, Or.inl rfl⟩ rfl dX0_begin_26 ?_
    refine lv_bipush (v := 10) cx.x cx.b dX0_begin_29 (by decide) ?_
    refine lv_iload_n cx.x cx.b dX0_begin_31 rfl (lv_at hl 1 rfl) ?_
    refine lv_imul cx.x cx.b dX0_begin_32 ?_
    refine lv_iload_n cx.x cx.b dX0_begin_33 rfl (lv_at hl 2 rfl) ?_
    refine lv_iadd cx.x cx.b dX0_begin_34 ?_
    refine ast_i (f := s_g σ) cx hw 2 0 rfl rfl (s_N σ % 100) (by rw [nx_b hb13]; rfl) (Nat.mod_lt _ (by decide)) (by decide) dX0_begin_35 (w1 := kwB G Q σ (0, kp (s_N σ), nI (s_N σ), upd (s_g σ) (s_N σ % 100) ((10 * a) + k))) rfl (fun H locs hw => ?_)
    refine lv_aload_n cx.x cx.b dX0_begin_36 rfl (lv_at hl 0 rfl) ?_
    refine lv_dup cx.x cx.b dX0_begin_37 rfl ?_
    refine gt_f (v := .int 0) cx hw 1 rfl rfl inX0 1 (by decide) tw_39 ⟨rfl, rfl, Or.inl rfl⟩ rfl dX0_begin_38 ?_
    refine lv_iconst (v := 1) cx.x cx.b dX0_begin_41 (by decide) ?_
    refine lv_iadd cx.x cx.b dX0_begin_42 ?_
    refine pt_f cx hw 1 rfl rfl inX0 tyX0 tyX0_ok nmX0 1 (by decide) tw_39 ⟨rfl, rfl, Or.inl rfl⟩ rfl rfl rfl rfl (Nat.le_of_ble_eq_true rfl) dX0_begin_43 (w1 := kwB G Q σ ((0 + 1), kp (s_N σ), nI (s_N σ), upd (s_g σ) (s_N σ % 100) ((10 * a) + k))) rfl (fun H locs hw => ?_)
    refine lv_aload_n cx.x cx.b dX0_begin_46 rfl (lv_at hl 0 rfl) ?_
    refine gt_f (v := .int (kp (s_N σ))) cx hw 1 rfl rfl inX0 2 (by decide) tw_40 ⟨rfl, rfl, Or.inl rfl⟩ rfl dX0_begin_47 ?_
    refine lv_bipush (v := 100) cx.x cx.b dX0_begin_50 (by decide) ?_
    refine lv_icmp_ge (tgt := 65) cx.x cx.b dX0_begin_52 (by decide) (fun hb52 => ?_) (fun hb52 => ?_)
    · refine lv_aload_n cx.x cx.b dX0_begin_65 rfl (lv_at hl 0 rfl) ?_
      refine lv_dup cx.x cx.b dX0_begin_66 rfl ?_
      refine gt_f (v := .int (nI (s_N σ))) cx hw 1 rfl rfl inX0 3 (by decide) tw_41 ⟨rfl, rfl, Or.inl rfl⟩ rfl dX0_begin_67 ?_
      refine lv_iconst (v := 1) cx.x cx.b dX0_begin_70 (by decide) ?_
      refine lv_iadd cx.x cx.b dX0_begin_71 ?_
      refine pt_f cx hw 1 rfl rfl inX0 tyX0 tyX0_ok nmX0 3 (by decide) tw_41 ⟨rfl, rfl, Or.inl rfl⟩ rfl rfl rfl rfl (Nat.le_of_ble_eq_true rfl) dX0_begin_72 (w1 := kwB G Q σ ((0 + 1), kp (s_N σ), ((nI (s_N σ)) + 1), upd (s_g σ) (s_N σ % 100) ((10 * a) + k))) rfl (fun H locs hw => ?_)
      rw [kwB_beg (a := a) (k := k) (by rw [← nx_s, nx_b hb13]; rfl) (kp_a hb52).symm (nI_1 _) rfl] at hw
      exact ret_v (sBeg a k σ) cx hw rfl dX0_begin_75 (Nat.le_of_ble_eq_true rfl) (Nat.le_of_ble_eq_true rfl)
    · refine lv_aload_n cx.x cx.b dX0_begin_55 rfl (lv_at hl 0 rfl) ?_
      refine lv_dup cx.x cx.b dX0_begin_56 rfl ?_
      refine gt_f (v := .int (kp (s_N σ))) cx hw 1 rfl rfl inX0 2 (by decide) tw_40 ⟨rfl, rfl, Or.inl rfl⟩ rfl dX0_begin_57 ?_
      refine lv_iconst (v := 1) cx.x cx.b dX0_begin_60 (by decide) ?_
      refine lv_iadd cx.x cx.b dX0_begin_61 ?_
      refine pt_f cx hw 1 rfl rfl inX0 tyX0 tyX0_ok nmX0 2 (by decide) tw_40 ⟨rfl, rfl, Or.inl rfl⟩ rfl rfl rfl rfl (Nat.le_of_ble_eq_true rfl) dX0_begin_62 (w1 := kwB G Q σ ((0 + 1), ((kp (s_N σ)) + 1), nI (s_N σ), upd (s_g σ) (s_N σ % 100) ((10 * a) + k))) rfl (fun H locs hw => ?_)
      refine lv_aload_n cx.x cx.b dX0_begin_65 rfl (lv_at hl 0 rfl) ?_
      refine lv_dup cx.x cx.b dX0_begin_66 rfl ?_
      refine gt_f (v := .int (nI (s_N σ))) cx hw 1 rfl rfl inX0 3 (by decide) tw_41 ⟨rfl, rfl, Or.inl rfl⟩ rfl dX0_begin_67 ?_
      refine lv_iconst (v := 1) cx.x cx.b dX0_begin_70 (by decide) ?_
      refine lv_iadd cx.x cx.b dX0_begin_71 ?_
      refine pt_f cx hw 1 rfl rfl inX0 tyX0 tyX0_ok nmX0 3 (by decide) tw_41 ⟨rfl, rfl, Or.inl rfl⟩ rfl rfl rfl rfl (Nat.le_of_ble_eq_true rfl) dX0_begin_72 (w1 := kwB G Q σ ((0 + 1), ((kp (s_N σ)) + 1), ((nI (s_N σ)) + 1), upd (s_g σ) (s_N σ % 100) ((10 * a) + k))) rfl (fun H locs hw => ?_)
      rw [kwB_beg (a := a) (k := k) (by rw [← nx_s, nx_b hb13]; rfl) (kp_b hb52) (nI_1 _) rfl] at hw
      exact ret_v (sBeg a k σ) cx hw rfl dX0_begin_75 (Nat.le_of_ble_eq_true rfl) (Nat.le_of_ble_eq_true rfl)
end
section
/-! the rules, as functions of the state (class and reference alike) -/
def m100 (x : Int32) : Int32 := if 100 < x then 100 else x
def pR0 (i : Nat) (mi : Int32) (σ : St) : St := sF 4 i (m100 (s_F σ 4 i + mi / 6)) (sBeg 0 0 σ)
def pR2 (i : Nat) (mi : Int32) (σ : St) : St := pR0 i (mi / 2) (sBeg 0 2 σ)
def pR4 (i : Nat) (mi : Int32) (σ : St) : St := pR2 i mi (sF 6 i (s_F σ 6 i + 1) (sBeg 0 4 σ))
def pR7 (i : Nat) (mi : Int32) (σ : St) : St := pR4 i (mi + s_F σ 6 i) (sBeg 0 7 σ)
def pR5a (i : Nat) (mi : Int32) (σ : St) : St := pR0 i mi (sBeg 0 5 σ)
def pR5f (i : Nat) (mi : Int32) (σ : St) : St := sC 4 (s_c σ 4 + 1) (sF 4 i 10 (pR5a i mi σ))
def pF0 (i : Nat) (σ : St) : St := sF 5 i (s_F σ 5 i + 1) (sF 4 i (s_F σ 4 i / 2) (sBeg 1 0 σ))
def pF3 (i : Nat) (σ : St) : St := pF0 i (pF0 i (sBeg 1 3 σ))
def dec0 (x : Int32) : Int32 := if 0 < x then x - 1 else 0
def pF4 (i : Nat) (σ : St) : St := sF 6 i (dec0 (s_F σ 6 i)) (pF0 i (sBeg 1 4 σ))
def pF6 (i : Nat) (σ : St) : St := sF 5 i (s_F σ 5 i + 1) (sBeg 1 6 σ)
def pB0 (i : Nat) (ht : Int32) (σ : St) : St := sF 7 i (s_F σ 7 i + (ht + s_F σ 4 i) / 10) (sBeg 3 0 σ)
def b01 (b : Prop) [Decidable b] : Int32 := if b then 1 else 0
theorem b01_nar {b : Prop} [Decidable b] : narrow .boolean (.int (b01 b)) = .int (b01 b) := by unfold b01; split <;> rfl
theorem b01_1 {b : Prop} [Decidable b] (h : b) : (1 : Int32) = b01 b := by simp [b01, h]
theorem b01_0 {b : Prop} [Decidable b] (h : ¬ b) : (0 : Int32) = b01 b := by simp [b01, h]
theorem b01_eq0 {b : Prop} [Decidable b] : b01 b = 0 ↔ ¬ b := by unfold b01; split <;> simp_all
def pB2 (i : Nat) (ht : Int32) (σ : St) : St := pB0 i (ht - 30) (sBeg 3 2 σ)
def pB3 (i : Nat) (ht : Int32) (σ : St) : St := pB0 i ht (sBeg 3 3 σ)
def pB4 (i : Nat) (ht : Int32) (σ : St) : St := pB2 i ht (sBeg 3 4 σ)
def pB6 (i : Nat) (ht : Int32) (σ : St) : St := pB0 i (2 * ht) (sBeg 3 6 σ)
def vW0 (i : Nat) (σ : St) : Int32 := s_F σ 3 i / 10 + 2 * s_F σ 5 i
def pW4 (σ : St) : St := sBeg 4 0 (sBeg 4 4 σ)
def pW5 (σ : St) : St := sBeg 4 0 (sBeg 4 5 σ)
def pW7 (σ : St) : St := pW4 (sBeg 4 7 σ)
def pW6f (σ : St) : St := sC 6 (s_c σ 6 + 1) (sBeg 4 6 σ)
/-- whether a shelf has a place -/
abbrev hasP (z pl : Int32) : Prop := 0 ≤ pl ∧ pl < z ∧ pl < 8
def pL0 (i k : Nat) (pl : Int32) (σ : St) : St := sR k pl.toNatClampNeg (nI i) (sBeg 2 0 σ)
def pLf (σ : St) : St := sC 5 (s_c σ 5 + 1) (sBeg 2 0 σ)
theorem acid_max {a : Nat} (h : a < 2 ^ 30) : (if nI a - 1 < 0 then 0 else nI a - 1) = dec0 (nI a) := by
  unfold dec0
  cases a with
  | zero => decide
  | succ a =>
    rw [nI_pred, if_neg (nI_pos (by omega)), if_pos (show (0 : Int32) < nI (a + 1) from nI_lt (a := 0) (b := a + 1) (by omega) (by omega))]
theorem hasP_nI {z pl : Int32} (h : hasP z pl) : ∃ j : Nat, j < 8 ∧ pl = nI j ∧ nI j < z := by
  obtain ⟨j, hj, rfl⟩ := nI_of2 (x := pl) (M := 7) (n := 7) rfl (Int32.not_lt.mpr h.1) (by
    have h2 := h.2.2
    rw [Int32.lt_iff_toInt_lt] at h2
    rw [Int32.le_iff_toInt_le]
    have e8 : (8 : Int32).toInt = 8 := rfl
    have e7 : (7 : Int32).toInt = 7 := rfl
    omega)
  exact ⟨j, by omega, rfl, h.2.1⟩
/-- a throw of NullPointerException with a text: its words -/
def NpeOk (s : State) (args : Array Value) : Prop := True
section Npe
variable {p : Program} {l : Launch} {e : Env} {R : Room} {s : State} {m : MethodId} {args : Array Value} {below : List Frame} {meth : Method} {c : Code} {H : Heap} {locs : List Loc} {cells slots : Nat}
variable {A : Nat → Prop} {D : va_G} {cl : List vw_C} {tys : List (ClassId × FieldType)} {cc : ByteArray} {nL : Nat} {ret : Option FieldType}
variable {pc : Nat} {ls : Array Slot} {rest : List Value} {S : Type} {w : S → va_W} {mc ms : Nat}
theorem thr_npe {post : S → Prop} {px : String → S → Prop} (u : S) (hl : l.stackTraces = false) (ht : ∀ x ∈ c.exceptionTable.toList, False) (cx : Fx p s m args meth c A D cl tys cc nL "BakeHouse$Dough" ret) (hw : Wd D cl A s H locs (w u)) (hls : ls.size = nL)
    (d0 : decode cc pc = .ok (.new 58, 3)) (d3 : decode cc (pc + 3) = .ok (.dup, 1)) (d4 : decode cc (pc + 4) = .ok (.ldc 60, 2)) (d6 : decode cc (pc + 6) = .ok (.invokespecial 62, 3)) (d9 : decode cc (pc + 9) = .ok (.athrow, 1))
    (hR : 10 < R.frames ∧ 200 ≤ R.locals ∧ cells + 1 ≤ R.cells ∧ slots + 8 ≤ R.slots) (hp : px "java/lang/NullPointerException" u) (hc : cells + 1 ≤ mc) (hs : slots + 8 ≤ ms) :
    W p l e R s m args below meth c H locs cells slots (QXV D cl w A post px below args s mc ms) (F0 m pc ls []) := by
  sorry
end Npe
theorem kw_sC {G : Nat → Nat} {Q : Nat → ClassId} {σ : St} {k : Nat} {v : Int32} (h : k = 4 ∨ k = 5 ∨ k = 6) : (kw G Q σ).set 1 (G 1, .inr (0, [.ref (G 2), .int (nx (s_N σ)), .int (kp (s_N σ)), .int (nI (s_N σ)), .int (s_c σ 4), .int (s_c σ 5), .int (s_c σ 6)].set k (.int v))) = kw G Q (sC k v σ) := by
  rcases h with rfl | rfl | rfl <;> rfl
theorem kw_b {G : Nat → Nat} {Q : Nat → ClassId} (σ : St) : (kw G Q σ)[1]? = some (G 1, .inr (0, [.ref (G 2), .int (nx (s_N σ)), .int (kp (s_N σ)), .int (nI (s_N σ)), .int (s_c σ 4), .int (s_c σ 5), .int (s_c σ 6)])) := rfl
theorem kw_h {G : Nat → Nat} {Q : Nat → ClassId} (σ : St) : (kw G Q σ)[0]? = some (G 0, .inr (2, [.ref (G 1), .ref (G 3), .ref (G 4), .int (nI (s_n σ))])) := rfl
end
section
set_option maxHeartbeats 4000000 in
set_option maxRecDepth 100000 in
theorem c_X7_isOut (l : Launch) (D : va_G) (G : Nat → Nat) (Q : Nat → ClassId) (σ : St) (k : Nat) (hk : k < 4) : MI l yX7_isOut cX7_isOut 1 .boolean ({ frames := 0, cells := 0, slots := 0, locals := 0 }) D cls (tyl Q) [.ref (G (5 + k))] (kw G Q) (kw G Q σ) (fun r u => r = b01 (s_z σ k = -1) ∧ u = σ) 0 0 := by
  refine MI_of (by decide) (Nat.le_of_ble_eq_true rfl) ?_
  intro p e s m args below meth c A ls cx hw hl
  have hl : lv_has ls 1 [(0, .ref (G (5 + k)))] := hl
  refine lv_aload_n cx.x cx.b dX7_isOut_0 rfl (lv_at hl 0 rfl) ?_
  refine gt_f (v := .int (s_z σ k)) cx hw (5 + k) (kw_s σ hk) rfl inX7 1 (by decide) tw_76 ⟨rfl, rfl, Or.inl rfl⟩ rfl dX7_isOut_1 ?_
  refine lv_iconst (v := (-1)) cx.x cx.b dX7_isOut_4 (by decide) ?_
  refine lv_icmp_ne (tgt := 12) cx.x cx.b dX7_isOut_5 (by decide) (fun hb5 => ?_) (fun hb5 => ?_)
  · refine lv_iconst (v := 0) cx.x cx.b dX7_isOut_12 (by decide) ?_
    exact ret_z σ cx hw rfl ⟨b01_0 hb5, rfl⟩ dX7_isOut_13 (Nat.le_of_ble_eq_true rfl) (Nat.le_of_ble_eq_true rfl)
  · refine lv_iconst (v := 1) cx.x cx.b dX7_isOut_8 (by decide) ?_
    refine lv_goto (tgt := 13) cx.x cx.b dX7_isOut_9 (by decide) ?_
    exact ret_z σ cx hw rfl ⟨b01_1 hb5, rfl⟩ dX7_isOut_13 (Nat.le_of_ble_eq_true rfl) (Nat.le_of_ble_eq_true rfl)
set_option maxHeartbeats 4000000 in
set_option maxRecDepth 100000 in
theorem c_X7_has (l : Launch) (D : va_G) (G : Nat → Nat) (Q : Nat → ClassId) (σ : St) (k : Nat) (hk : k < 4) (pl : Int32) : MI l yX7_has cX7_has 2 .boolean ({ frames := 0, cells := 0, slots := 0, locals := 0 }) D cls (tyl Q) [.ref (G (5 + k)), .int pl] (kw G Q) (kw G Q σ) (fun r u => r = b01 (hasP (s_z σ k) pl) ∧ u = σ) 0 0 := by
  refine MI_of (by decide) (Nat.le_of_ble_eq_true rfl) ?_
  intro p e s m args below meth c A ls cx hw hl
  have hl : lv_has ls 2 [(0, .ref (G (5 + k))), (1, .int pl)] := hl
  refine lv_iload_n cx.x cx.b dX7_has_0 rfl (lv_at hl 1 rfl) ?_
  refine lv_if_lt (tgt := 22) cx.x cx.b dX7_has_1 (by decide) (fun hb1 => ?_) (fun hb1 => ?_)
  · refine lv_iconst (v := 0) cx.x cx.b dX7_has_22 (by decide) ?_
    exact ret_z σ cx hw rfl ⟨b01_0 (fun h => Int32.not_lt.mpr h.1 hb1), rfl⟩ dX7_has_23 (Nat.le_of_ble_eq_true rfl) (Nat.le_of_ble_eq_true rfl)
  · refine lv_iload_n cx.x cx.b dX7_has_4 rfl (lv_at hl 1 rfl) ?_
    refine lv_aload_n cx.x cx.b dX7_has_5 rfl (lv_at hl 0 rfl) ?_
    refine gt_f (v := .int (s_z σ k)) cx hw (5 + k) (kw_s σ hk) rfl inX7 1 (by decide) tw_76 ⟨rfl, rfl, Or.inl rfl⟩ rfl dX7_has_6 ?_
    refine lv_icmp_ge (tgt := 22) cx.x cx.b dX7_has_9 (by decide) (fun hb9 => ?_) (fun hb9 => ?_)
    · refine lv_iconst (v := 0) cx.x cx.b dX7_has_22 (by decide) ?_
      exact ret_z σ cx hw rfl ⟨b01_0 (fun h => Int32.not_le.mpr h.2.1 hb9), rfl⟩ dX7_has_23 (Nat.le_of_ble_eq_true rfl) (Nat.le_of_ble_eq_true rfl)
    · refine lv_iload_n cx.x cx.b dX7_has_12 rfl (lv_at hl 1 rfl) ?_
      refine lv_bipush (v := 8) cx.x cx.b dX7_has_13 (by decide) ?_
      refine lv_icmp_ge (tgt := 22) cx.x cx.b dX7_has_15 (by decide) (fun hb15 => ?_) (fun hb15 => ?_)
      · refine lv_iconst (v := 0) cx.x cx.b dX7_has_22 (by decide) ?_
        exact ret_z σ cx hw rfl ⟨b01_0 (fun h => Int32.not_le.mpr h.2.2 hb15), rfl⟩ dX7_has_23 (Nat.le_of_ble_eq_true rfl) (Nat.le_of_ble_eq_true rfl)
      · refine lv_iconst (v := 1) cx.x cx.b dX7_has_18 (by decide) ?_
        refine lv_goto (tgt := 23) cx.x cx.b dX7_has_19 (by decide) ?_
        exact ret_z σ cx hw rfl ⟨b01_1 ⟨Int32.not_lt.mp hb1, Int32.not_le.mp hb9, Int32.not_le.mp hb15⟩, rfl⟩ dX7_has_23 (Nat.le_of_ble_eq_true rfl) (Nat.le_of_ble_eq_true rfl)
set_option maxHeartbeats 4000000 in
set_option maxRecDepth 100000 in
theorem c_X7_put (l : Launch) (D : va_G) (G : Nat → Nat) (Q : Nat → ClassId) (σ : St) (k : Nat) (hk : k < 4) (j : Nat) (hj : j < 8) (hz : nI j < s_z σ k) (x : Int32) : MV l yX7_put cX7_put 3 ({ frames := 1, cells := 0, slots := 0, locals := 21 }) D cls (tyl Q) [.ref (G (5 + k)), .int (nI j), .int x] (kw G Q) (kw G Q σ) (fun u => u = sR k j x σ) 0 0 := by
  refine MV_of (by decide) (Nat.le_of_ble_eq_true rfl) ?_
  intro p e s m args below meth c A ls cx hw hl
  have hl : lv_has ls 3 [(0, .ref (G (5 + k))), (1, .int (nI j)), (2, .int x)] := hl
  refine lv_aload_n cx.x cx.b dX7_put_0 rfl (lv_at hl 0 rfl) ?_
  refine lv_iload_n cx.x cx.b dX7_put_1 rfl (lv_at hl 1 rfl) ?_
  refine cgo_i cx hw (rV_i (q0 := (5 + k)) (n := 1) (As := [.int (nI j)]) (rest := []) cx hw (c_X7_has l D G Q σ k hk (nI j)) (gd_V tw_386 tw_387 tw_388 tw_3 tw_389) rfl ⟨by decide +kernel, rfl, hl.1, (Nat.le_of_ble_eq_true rfl), ⟨(Nat.le_of_ble_eq_true rfl), (Nat.le_of_ble_eq_true rfl)⟩, ⟨(Nat.le_of_ble_eq_true rfl), (Nat.le_of_ble_eq_true rfl)⟩, rfl, rfl⟩ rfl (kw_s σ hk) rfl dX7_put_2) (fun r u H locs hp hw => ?_)
  obtain ⟨h8, h9⟩ := hp
  have h8 := h8.symm
  have h9 := h9.symm
  subst h8
  subst h9
  refine lv_if_eq (tgt := 15) cx.x cx.b dX7_put_5 (by decide) (fun hb5 => absurd hb5 (by rw [b01_eq0]; exact fun h => h ⟨nI_pos' (by omega), hz, nI_lt (b := 8) hj (by decide)⟩)) (fun hb5 => ?_)
  refine lv_aload_n cx.x cx.b dX7_put_8 rfl (lv_at hl 0 rfl) ?_
  refine gt_f (v := .ref (G (9 + k))) cx hw (5 + k) (kw_s σ hk) rfl inX7 0 (by decide) tw_75 ⟨rfl, rfl, Or.inl rfl⟩ rfl dX7_put_9 ?_
  refine lv_iload_n cx.x cx.b dX7_put_12 rfl (lv_at hl 1 rfl) ?_
  refine lv_iload_n cx.x cx.b dX7_put_13 rfl (lv_at hl 2 rfl) ?_
  refine ast_i (f := s_r σ k) cx hw (9 + k) 0 (kw_row σ hk) rfl j rfl hj (by decide) dX7_put_14 (w1 := kw G Q (sR k j x σ)) (kw_sR hk) (fun H locs hw => ?_)
  exact ret_v (sR k j x σ) cx hw rfl dX7_put_15 (Nat.le_of_ble_eq_true rfl) (Nat.le_of_ble_eq_true rfl)
set_option maxHeartbeats 4000000 in
set_option maxRecDepth 100000 in
theorem c_X7_takeOut (l : Launch) (D : va_G) (G : Nat → Nat) (Q : Nat → ClassId) (σ : St) (k : Nat) (hk : k < 4) : MV l yX7_takeOut cX7_takeOut 1 ({ frames := 0, cells := 0, slots := 0, locals := 0 }) D cls (tyl Q) [.ref (G (5 + k))] (kw G Q) (kw G Q σ) (fun u => u = sZ k (-1) σ) 0 0 := by
  refine MV_of (by decide) (Nat.le_of_ble_eq_true rfl) ?_
  intro p e s m args below meth c A ls cx hw hl
  have hl : lv_has ls 1 [(0, .ref (G (5 + k)))] := hl
  refine lv_aload_n cx.x cx.b dX7_takeOut_0 rfl (lv_at hl 0 rfl) ?_
  refine lv_iconst (v := (-1)) cx.x cx.b dX7_takeOut_1 (by decide) ?_
  refine pt_f cx hw (5 + k) (kw_s σ hk) rfl inX7 tyX7 tyX7_ok nmX7 1 (by decide) tw_76 ⟨rfl, rfl, Or.inl rfl⟩ rfl rfl rfl rfl (Nat.le_of_ble_eq_true rfl) dX7_takeOut_2 (w1 := kw G Q (sZ k (-1) σ)) (kw_sZ hk) (fun H locs hw => ?_)
  exact ret_v (sZ k (-1) σ) cx hw rfl dX7_takeOut_5 (Nat.le_of_ble_eq_true rfl) (Nat.le_of_ble_eq_true rfl)
set_option maxHeartbeats 4000000 in
set_option maxRecDepth 100000 in
theorem c_X7_loafIn (l : Launch) (D : va_G) (G : Nat → Nat) (Q : Nat → ClassId) (σ : St) (k : Nat) (hk : k < 4) (pl : Int32) : MI l yX7_loafIn cX7_loafIn 2 .int ({ frames := 1, cells := 0, slots := 0, locals := 21 }) D cls (tyl Q) [.ref (G (5 + k)), .int pl] (kw G Q) (kw G Q σ) (fun r u => r = (if hasP (s_z σ k) pl then s_r σ k pl.toNatClampNeg else -1) ∧ u = σ) 0 0 := by
  refine MI_of (by decide) (Nat.le_of_ble_eq_true rfl) ?_
  intro p e s m args below meth c A ls cx hw hl
  have hl : lv_has ls 2 [(0, .ref (G (5 + k))), (1, .int pl)] := hl
  by_cases hp : hasP (s_z σ k) pl
  · obtain ⟨j, hj, rfl, hz⟩ := hasP_nI hp
    refine lv_aload_n cx.x cx.b dX7_loafIn_0 rfl (lv_at hl 0 rfl) ?_
    refine lv_iload_n cx.x cx.b dX7_loafIn_1 rfl (lv_at hl 1 rfl) ?_
    refine cgo_i cx hw (rV_i (q0 := (5 + k)) (n := 1) (As := [.int (nI j)]) (rest := []) cx hw (c_X7_has l D G Q σ k hk (nI j)) (gd_V tw_386 tw_387 tw_388 tw_3 tw_389) rfl ⟨by decide +kernel, rfl, hl.1, (Nat.le_of_ble_eq_true rfl), ⟨(Nat.le_of_ble_eq_true rfl), (Nat.le_of_ble_eq_true rfl)⟩, ⟨(Nat.le_of_ble_eq_true rfl), (Nat.le_of_ble_eq_true rfl)⟩, rfl, rfl⟩ rfl (kw_s σ hk) rfl dX7_loafIn_2) (fun r u H locs hp hw => ?_)
    obtain ⟨h8, h9⟩ := hp
    have h8 := h8.symm
    have h9 := h9.symm
    subst h8
    subst h9
    refine lv_if_eq (tgt := 17) cx.x cx.b dX7_loafIn_5 (by decide) (fun hb5 => absurd hb5 (by rw [b01_eq0]; exact fun h => h hp)) (fun hb5 => ?_)
    refine lv_aload_n cx.x cx.b dX7_loafIn_8 rfl (lv_at hl 0 rfl) ?_
    refine gt_f (v := .ref (G (9 + k))) cx hw (5 + k) (kw_s σ hk) rfl inX7 0 (by decide) tw_75 ⟨rfl, rfl, Or.inl rfl⟩ rfl dX7_loafIn_9 ?_
    refine lv_iload_n cx.x cx.b dX7_loafIn_12 rfl (lv_at hl 1 rfl) ?_
    refine ald_i (f := s_r σ k) cx hw (9 + k) 0 (kw_row σ hk) rfl j rfl hj (by decide) dX7_loafIn_13 ?_
    refine lv_goto (tgt := 18) cx.x cx.b dX7_loafIn_14 (by decide) ?_
    exact ret_i σ cx hw ⟨by rw [if_pos hp, nI_clamp (by omega)], rfl⟩ dX7_loafIn_18 (Nat.le_of_ble_eq_true rfl) (Nat.le_of_ble_eq_true rfl)
  · refine lv_aload_n cx.x cx.b dX7_loafIn_0 rfl (lv_at hl 0 rfl) ?_
    refine lv_iload_n cx.x cx.b dX7_loafIn_1 rfl (lv_at hl 1 rfl) ?_
    refine cgo_i cx hw (rV_i (q0 := (5 + k)) (n := 1) (As := [.int pl]) (rest := []) cx hw (c_X7_has l D G Q σ k hk pl) (gd_V tw_386 tw_387 tw_388 tw_3 tw_389) rfl ⟨by decide +kernel, rfl, hl.1, (Nat.le_of_ble_eq_true rfl), ⟨(Nat.le_of_ble_eq_true rfl), (Nat.le_of_ble_eq_true rfl)⟩, ⟨(Nat.le_of_ble_eq_true rfl), (Nat.le_of_ble_eq_true rfl)⟩, rfl, rfl⟩ rfl (kw_s σ hk) rfl dX7_loafIn_2) (fun r u H locs hp hw => ?_)
    obtain ⟨h8, h9⟩ := hp
    have h8 := h8.symm
    have h9 := h9.symm
    subst h8
    subst h9
    refine lv_if_eq (tgt := 17) cx.x cx.b dX7_loafIn_5 (by decide) (fun hb5 => ?_) (fun hb5 => absurd (b01_eq0.mpr hp) hb5)
    refine lv_iconst (v := (-1)) cx.x cx.b dX7_loafIn_17 (by decide) ?_
    exact ret_i σ cx hw ⟨by rw [if_neg hp], rfl⟩ dX7_loafIn_18 (Nat.le_of_ble_eq_true rfl) (Nat.le_of_ble_eq_true rfl)
set_option maxHeartbeats 4000000 in
set_option maxRecDepth 100000 in
theorem c_X2_isDoneByCrust (l : Launch) (D : va_G) (G : Nat → Nat) (Q : Nat → ClassId) (σ : St) (i : Nat) (hn : i < s_n σ) (hd : s_k σ i < 8) : MI l yX2_isDoneByCrust cX2_isDoneByCrust 1 .boolean ({ frames := 0, cells := 0, slots := 0, locals := 0 }) D cls (tyl Q) [.ref (s_a σ i)] (kw G Q) (kw G Q σ) (fun r u => r = b01 (20 ≤ s_F σ 7 i) ∧ u = σ) 0 0 := by
  refine MI_of (by decide) (Nat.le_of_ble_eq_true rfl) ?_
  intro p e s m args below meth c A ls cx hw hl
  have hl : lv_has ls 1 [(0, .ref (s_a σ i))] := hl
  refine lv_aload_n cx.x cx.b dX2_isDoneByCrust_0 rfl (lv_at hl 0 rfl) ?_
  refine gt_f (v := .int (s_F σ 7 i)) cx hw (13 + i) (kw_d σ hn) (cls_d hd) (inD_all _ hd) 7 (by decide) tw_150 ⟨rfl, rfl, Or.inl rfl⟩ rfl dX2_isDoneByCrust_1 ?_
  refine lv_bipush (v := 20) cx.x cx.b dX2_isDoneByCrust_4 (by decide) ?_
  refine lv_icmp_lt (tgt := 13) cx.x cx.b dX2_isDoneByCrust_6 (by decide) (fun hb6 => ?_) (fun hb6 => ?_)
  · refine lv_iconst (v := 0) cx.x cx.b dX2_isDoneByCrust_13 (by decide) ?_
    exact ret_z σ cx hw rfl ⟨b01_0 (Int32.not_le.mpr hb6), rfl⟩ dX2_isDoneByCrust_14 (Nat.le_of_ble_eq_true rfl) (Nat.le_of_ble_eq_true rfl)
  · refine lv_iconst (v := 1) cx.x cx.b dX2_isDoneByCrust_9 (by decide) ?_
    refine lv_goto (tgt := 14) cx.x cx.b dX2_isDoneByCrust_10 (by decide) ?_
    exact ret_z σ cx hw rfl ⟨b01_1 (Int32.not_lt.mp hb6), rfl⟩ dX2_isDoneByCrust_14 (Nat.le_of_ble_eq_true rfl) (Nat.le_of_ble_eq_true rfl)
theorem cwu_idc {k : Nat} (h : k < 8) : CwU "BakeHouse$Dough" (kR k) "BakeHouse$Dough" 77 ⟨"BakeHouse$Dough", "isDoneByCrust", "()Z"⟩ yX2_isDoneByCrust cX2_isDoneByCrust 1 (some .boolean) := by
  rcases (show k = 0 ∨ k = 1 ∨ k = 2 ∨ k = 3 ∨ k = 4 ∨ k = 5 ∨ k = 6 ∨ k = 7 by omega) with rfl | rfl | rfl | rfl | rfl | rfl | rfl | rfl
  · exact ⟨tw_362, tw_365, tw_363, tw_364, tw_363, tw_5, tw_373, ⟨_, _, _, tw_373⟩, by decide, rfl⟩
  · exact ⟨tw_362, tw_365, tw_363, tw_368, tw_363, tw_5, tw_373, ⟨_, _, _, tw_373⟩, by decide, rfl⟩
  · exact ⟨tw_362, tw_365, tw_363, tw_370, tw_363, tw_5, tw_373, ⟨_, _, _, tw_373⟩, by decide, rfl⟩
  · exact ⟨tw_362, tw_365, tw_363, tw_372, tw_363, tw_5, tw_373, ⟨_, _, _, tw_373⟩, by decide, rfl⟩
  · exact ⟨tw_362, tw_365, tw_363, tw_371, tw_363, tw_5, tw_373, ⟨_, _, _, tw_373⟩, by decide, rfl⟩
  · exact ⟨tw_362, tw_365, tw_363, tw_366, tw_363, tw_5, tw_373, ⟨_, _, _, tw_373⟩, by decide, rfl⟩
  · exact ⟨tw_362, tw_365, tw_363, tw_367, tw_363, tw_5, tw_373, ⟨_, _, _, tw_373⟩, by decide, rfl⟩
  · exact ⟨tw_362, tw_365, tw_363, tw_369, tw_363, tw_5, tw_373, ⟨_, _, _, tw_373⟩, by decide, rfl⟩
theorem cwu_idcL {k : Nat} (h : k = 7) : CwU "BakeHouse$Levain" (kR k) "BakeHouse$Dough" 37 ⟨"BakeHouse$Levain", "isDoneByCrust", "()Z"⟩ yX2_isDoneByCrust cX2_isDoneByCrust 1 (some .boolean) := by
  subst h
  exact ⟨tw_721, tw_722, tw_363, tw_724, tw_363, tw_5, tw_373, ⟨_, _, _, tw_373⟩, by decide, rfl⟩
set_option maxHeartbeats 4000000 in
set_option maxRecDepth 100000 in
theorem c_X2_doRest (l : Launch) (D : va_G) (G : Nat → Nat) (Q : Nat → ClassId) (σ : St) (i : Nat) (hn : i < s_n σ) (hd : s_k σ i < 8) (mi : Int32) : MI l yX2_doRest cX2_doRest 2 .int ({ frames := 1, cells := 0, slots := 0, locals := 22 }) D cls (tyl Q) [.ref (s_a σ i), .int mi] (kw G Q) (kw G Q σ) (fun r u => r = s_F (pR0 i mi σ) 4 i ∧ u = pR0 i mi σ) 0 0 := by
  refine MI_of (by decide) (Nat.le_of_ble_eq_true rfl) ?_
  intro p e s m args below meth c A ls cx hw hl
  have hl : lv_has ls 2 [(0, .ref (s_a σ i)), (1, .int mi)] := hl
  refine lv_aload_n cx.x cx.b dX2_doRest_0 rfl (lv_at hl 0 rfl) ?_
  refine gt_f (v := .ref (G 1)) cx hw (13 + i) (kw_d σ hn) (cls_d hd) (inD_all _ hd) 0 (by decide) tw_118 ⟨rfl, rfl, Or.inl rfl⟩ rfl dX2_doRest_1 ?_
  refine lv_iconst (v := 0) cx.x cx.b dX2_doRest_4 (by decide) ?_
  refine lv_iconst (v := 0) cx.x cx.b dX2_doRest_5 (by decide) ?_
  refine cgo_v cx hw (rV_v (q0 := 1) (n := 2) (As := [.int 0, .int 0]) (rest := []) cx hw (c_X0_begin l D G Q σ 0 0) (gd_V tw_330 tw_306 tw_307 tw_2 tw_308) rfl ⟨by decide +kernel, rfl, hl.1, (Nat.le_of_ble_eq_true rfl), ⟨(Nat.le_of_ble_eq_true rfl), (Nat.le_of_ble_eq_true rfl)⟩, ⟨(Nat.le_of_ble_eq_true rfl), (Nat.le_of_ble_eq_true rfl)⟩, rfl, rfl⟩ rfl (kw_b σ) rfl dX2_doRest_6) (fun u H locs hp hw => ?_)
  have hp := hp.symm
  subst hp
  refine lv_aload_n cx.x cx.b dX2_doRest_9 rfl (lv_at hl 0 rfl) ?_
  refine lv_aload_n cx.x cx.b dX2_doRest_10 rfl (lv_at hl 0 rfl) ?_
  refine gt_f (v := .int (s_F σ 4 i)) cx hw (13 + i) (kw_d (sBeg 0 0 σ) hn) (cls_d hd) (inD_all _ hd) 4 (by decide) tw_136 ⟨rfl, rfl, Or.inl rfl⟩ rfl dX2_doRest_11 ?_
  refine lv_iload_n cx.x cx.b dX2_doRest_14 rfl (lv_at hl 1 rfl) ?_
  refine lv_bipush (v := 6) cx.x cx.b dX2_doRest_15 (by decide) ?_
  refine lv_idiv cx.x cx.b dX2_doRest_17 (by decide) ?_
  refine lv_iadd cx.x cx.b dX2_doRest_18 ?_
  refine lv_bipush (v := 100) cx.x cx.b dX2_doRest_19 (by decide) ?_
  refine va_mmin cx.x cx.b (cx.ml.trans hl.1.symm) cx.ow (cx.ts _ tw_507) (cx.ts _ tw_508) (cx.ts _ tw_18) (cx.ts _ tw_509) (Nat.le_of_ble_eq_true rfl) (Nat.le_of_ble_eq_true rfl) (Nat.le_of_ble_eq_true rfl) (Nat.le_of_ble_eq_true rfl) dX2_doRest_21 ?_
  refine pt_f cx hw (13 + i) (kw_d (sBeg 0 0 σ) hn) (cls_d hd) (inD_all _ hd) tyX2 tyX2_ok nmX2 4 (by decide) tw_136 ⟨rfl, rfl, Or.inl rfl⟩ rfl rfl rfl rfl (Nat.le_of_ble_eq_true rfl) dX2_doRest_24 (w1 := kw G Q (sF 4 i (if 100 < ((s_F σ 4 i) + (mi / 6)) then 100 else ((s_F σ 4 i) + (mi / 6))) (sBeg 0 0 σ))) (kw_sF (by decide)) (fun H locs hw => ?_)
  refine lv_aload_n cx.x cx.b dX2_doRest_27 rfl (lv_at hl 0 rfl) ?_
  refine gt_f (v := .int (s_F (sF 4 i (if 100 < ((s_F σ 4 i) + (mi / 6)) then 100 else ((s_F σ 4 i) + (mi / 6))) (sBeg 0 0 σ)) 4 i)) cx hw (13 + i) (kw_d (sF 4 i (if 100 < ((s_F σ 4 i) + (mi / 6)) then 100 else ((s_F σ 4 i) + (mi / 6))) (sBeg 0 0 σ)) hn) (cls_d hd) (inD_all _ hd) 4 (by decide) tw_136 ⟨rfl, rfl, Or.inl rfl⟩ rfl dX2_doRest_28 ?_
  exact ret_i (sF 4 i (if 100 < ((s_F σ 4 i) + (mi / 6)) then 100 else ((s_F σ 4 i) + (mi / 6))) (sBeg 0 0 σ)) cx hw ⟨rfl, rfl⟩ dX2_doRest_31 (Nat.le_of_ble_eq_true rfl) (Nat.le_of_ble_eq_true rfl)
set_option maxHeartbeats 4000000 in
set_option maxRecDepth 100000 in
theorem c_X6_doRest (l : Launch) (D : va_G) (G : Nat → Nat) (Q : Nat → ClassId) (σ : St) (i : Nat) (hn : i < s_n σ) (hd : s_k σ i < 8) (mi : Int32) : MI l yX6_doRest cX6_doRest 2 .int ({ frames := 2, cells := 0, slots := 0, locals := 43 }) D cls (tyl Q) [.ref (s_a σ i), .int mi] (kw G Q) (kw G Q σ) (fun r u => r = s_F (pR2 i mi σ) 4 i ∧ u = pR2 i mi σ) 0 0 := by
  refine MI_of (by decide) (Nat.le_of_ble_eq_true rfl) ?_
  intro p e s m args below meth c A ls cx hw hl
  have hl : lv_has ls 2 [(0, .ref (s_a σ i)), (1, .int mi)] := hl
  refine lv_aload_n cx.x cx.b dX6_doRest_0 rfl (lv_at hl 0 rfl) ?_
  refine gt_f (v := .ref (G 1)) cx hw (13 + i) (kw_d σ hn) (cls_d hd) (inD_all _ hd) 0 (by decide) tw_125 ⟨rfl, rfl, Or.inr tw_126⟩ rfl dX6_doRest_1 ?_
  refine lv_iconst (v := 0) cx.x cx.b dX6_doRest_4 (by decide) ?_
  refine lv_iconst (v := 2) cx.x cx.b dX6_doRest_5 (by decide) ?_
  refine cgo_v cx hw (rV_v (q0 := 1) (n := 2) (As := [.int 0, .int 2]) (rest := []) cx hw (c_X0_begin l D G Q σ 0 2) (gd_V tw_356 tw_306 tw_307 tw_2 tw_308) rfl ⟨by decide +kernel, rfl, hl.1, (Nat.le_of_ble_eq_true rfl), ⟨(Nat.le_of_ble_eq_true rfl), (Nat.le_of_ble_eq_true rfl)⟩, ⟨(Nat.le_of_ble_eq_true rfl), (Nat.le_of_ble_eq_true rfl)⟩, rfl, rfl⟩ rfl (kw_b σ) rfl dX6_doRest_6) (fun u H locs hp hw => ?_)
  have hp := hp.symm
  subst hp
  refine lv_aload_n cx.x cx.b dX6_doRest_9 rfl (lv_at hl 0 rfl) ?_
  refine lv_iload_n cx.x cx.b dX6_doRest_10 rfl (lv_at hl 1 rfl) ?_
  refine lv_iconst (v := 2) cx.x cx.b dX6_doRest_11 (by decide) ?_
  refine lv_idiv cx.x cx.b dX6_doRest_12 (by decide) ?_
  refine cgo_i cx hw (rSU_i (x := ⟨"BakeHouse$Leavened", "doRest", "(I)I"⟩) (n := 1) (As := [.int (mi / 2)]) (rest := []) cx hw (c_X2_doRest l D G Q (sBeg 0 2 σ) i hn hd (mi / 2)) ⟨rfl, tw_501, tw_502, tw_187, tw_399, tw_5, tw_506, by decide, (sb_up_of (cx.ts _ tw_172) (cx.ts _ tw_273) (va_Nw.use rfl (cx.ev.2.2.2.2.1 _ (by decide +kernel))))⟩ ⟨by decide +kernel, rfl, hl.1, (Nat.le_of_ble_eq_true rfl), ⟨(Nat.le_of_ble_eq_true rfl), (Nat.le_of_ble_eq_true rfl)⟩, ⟨(Nat.le_of_ble_eq_true rfl), (Nat.le_of_ble_eq_true rfl)⟩, rfl, rfl⟩ rfl (kw_d (sBeg 0 2 σ) hn) (cls_d hd) dX6_doRest_13) (fun r u H locs hp hw => ?_)
  obtain ⟨h8, h9⟩ := hp
  have h8 := h8.symm
  have h9 := h9.symm
  subst h8
  subst h9
  exact ret_i (pR0 i (mi / 2) (sBeg 0 2 σ)) cx hw ⟨rfl, rfl⟩ dX6_doRest_16 (Nat.le_of_ble_eq_true rfl) (Nat.le_of_ble_eq_true rfl)
set_option maxHeartbeats 4000000 in
set_option maxRecDepth 100000 in
theorem c_X8_doRest (l : Launch) (D : va_G) (G : Nat → Nat) (Q : Nat → ClassId) (σ : St) (i : Nat) (hn : i < s_n σ) (hd : s_k σ i < 8) (mi : Int32) : MI l yX8_doRest cX8_doRest 2 .int ({ frames := 3, cells := 0, slots := 0, locals := 64 }) D cls (tyl Q) [.ref (s_a σ i), .int mi] (kw G Q) (kw G Q σ) (fun r u => r = s_F (pR4 i mi σ) 4 i ∧ u = pR4 i mi σ) 0 0 := by
  refine MI_of (by decide) (Nat.le_of_ble_eq_true rfl) ?_
  intro p e s m args below meth c A ls cx hw hl
  have hl : lv_has ls 2 [(0, .ref (s_a σ i)), (1, .int mi)] := hl
  refine lv_aload_n cx.x cx.b dX8_doRest_0 rfl (lv_at hl 0 rfl) ?_
  refine gt_f (v := .ref (G 1)) cx hw (13 + i) (kw_d σ hn) (cls_d hd) (inD_all _ hd) 0 (by decide) tw_123 ⟨rfl, rfl, Or.inr tw_124⟩ rfl dX8_doRest_1 ?_
  refine lv_iconst (v := 0) cx.x cx.b dX8_doRest_4 (by decide) ?_
  refine lv_iconst (v := 4) cx.x cx.b dX8_doRest_5 (by decide) ?_
  refine cgo_v cx hw (rV_v (q0 := 1) (n := 2) (As := [.int 0, .int 4]) (rest := []) cx hw (c_X0_begin l D G Q σ 0 4) (gd_V tw_320 tw_306 tw_307 tw_2 tw_308) rfl ⟨by decide +kernel, rfl, hl.1, (Nat.le_of_ble_eq_true rfl), ⟨(Nat.le_of_ble_eq_true rfl), (Nat.le_of_ble_eq_true rfl)⟩, ⟨(Nat.le_of_ble_eq_true rfl), (Nat.le_of_ble_eq_true rfl)⟩, rfl, rfl⟩ rfl (kw_b σ) rfl dX8_doRest_6) (fun u H locs hp hw => ?_)
  have hp := hp.symm
  subst hp
  refine lv_aload_n cx.x cx.b dX8_doRest_9 rfl (lv_at hl 0 rfl) ?_
  refine lv_dup cx.x cx.b dX8_doRest_10 rfl ?_
  refine gt_f (v := .int (s_F σ 6 i)) cx hw (13 + i) (kw_d (sBeg 0 4 σ) hn) (cls_d hd) (inD_all _ hd) 6 (by decide) tw_145 ⟨rfl, rfl, Or.inr tw_146⟩ rfl dX8_doRest_11 ?_
  refine lv_iconst (v := 1) cx.x cx.b dX8_doRest_14 (by decide) ?_
  refine lv_iadd cx.x cx.b dX8_doRest_15 ?_
  refine pt_f cx hw (13 + i) (kw_d (sBeg 0 4 σ) hn) (cls_d hd) (inD_all _ hd) tyX2 tyX2_ok nmX2 6 (by decide) tw_145 ⟨rfl, rfl, Or.inr tw_146⟩ rfl rfl rfl rfl (Nat.le_of_ble_eq_true rfl) dX8_doRest_16 (w1 := kw G Q (sF 6 i ((s_F σ 6 i) + 1) (sBeg 0 4 σ))) (kw_sF (by decide)) (fun H locs hw => ?_)
  refine lv_aload_n cx.x cx.b dX8_doRest_19 rfl (lv_at hl 0 rfl) ?_
  refine lv_iload_n cx.x cx.b dX8_doRest_20 rfl (lv_at hl 1 rfl) ?_
  refine cgo_i cx hw (rSU_i (x := ⟨"BakeHouse$Rye", "doRest", "(I)I"⟩) (n := 1) (As := [.int mi]) (rest := []) cx hw (c_X6_doRest l D G Q (sF 6 i ((s_F σ 6 i) + 1) (sBeg 0 4 σ)) i hn hd mi) ⟨rfl, tw_498, tw_960, tw_217, tw_499, tw_7, tw_500, by decide, sb_up_rf⟩ ⟨by decide +kernel, rfl, hl.1, (Nat.le_of_ble_eq_true rfl), ⟨(Nat.le_of_ble_eq_true rfl), (Nat.le_of_ble_eq_true rfl)⟩, ⟨(Nat.le_of_ble_eq_true rfl), (Nat.le_of_ble_eq_true rfl)⟩, rfl, rfl⟩ rfl (kw_d (sF 6 i ((s_F σ 6 i) + 1) (sBeg 0 4 σ)) hn) (cls_d hd) dX8_doRest_21) (fun r u H locs hp hw => ?_)
  obtain ⟨h8, h9⟩ := hp
  have h8 := h8.symm
  have h9 := h9.symm
  subst h8
  subst h9
  exact ret_i (pR2 i mi (sF 6 i ((s_F σ 6 i) + 1) (sBeg 0 4 σ))) cx hw ⟨rfl, rfl⟩ dX8_doRest_24 (Nat.le_of_ble_eq_true rfl) (Nat.le_of_ble_eq_true rfl)
set_option maxHeartbeats 4000000 in
set_option maxRecDepth 100000 in
theorem c_X5_doRest (l : Launch) (D : va_G) (G : Nat → Nat) (Q : Nat → ClassId) (σ : St) (i : Nat) (hn : i < s_n σ) (hd : s_k σ i < 8) (mi : Int32) : MI l yX5_doRest cX5_doRest 2 .int ({ frames := 4, cells := 0, slots := 0, locals := 85 }) D cls (tyl Q) [.ref (s_a σ i), .int mi] (kw G Q) (kw G Q σ) (fun r u => r = s_F (pR7 i mi σ) 4 i ∧ u = pR7 i mi σ) 0 0 := by
  refine MI_of (by decide) (Nat.le_of_ble_eq_true rfl) ?_
  intro p e s m args below meth c A ls cx hw hl
  have hl : lv_has ls 2 [(0, .ref (s_a σ i)), (1, .int mi)] := hl
  refine lv_aload_n cx.x cx.b dX5_doRest_0 rfl (lv_at hl 0 rfl) ?_
  refine gt_f (v := .ref (G 1)) cx hw (13 + i) (kw_d σ hn) (cls_d hd) (inD_all _ hd) 0 (by decide) tw_121 ⟨rfl, rfl, Or.inr tw_122⟩ rfl dX5_doRest_1 ?_
  refine lv_iconst (v := 0) cx.x cx.b dX5_doRest_4 (by decide) ?_
  refine lv_bipush (v := 7) cx.x cx.b dX5_doRest_5 (by decide) ?_
  refine cgo_v cx hw (rV_v (q0 := 1) (n := 2) (As := [.int 0, .int 7]) (rest := []) cx hw (c_X0_begin l D G Q σ 0 7) (gd_V tw_494 tw_306 tw_307 tw_2 tw_308) rfl ⟨by decide +kernel, rfl, hl.1, (Nat.le_of_ble_eq_true rfl), ⟨(Nat.le_of_ble_eq_true rfl), (Nat.le_of_ble_eq_true rfl)⟩, ⟨(Nat.le_of_ble_eq_true rfl), (Nat.le_of_ble_eq_true rfl)⟩, rfl, rfl⟩ rfl (kw_b σ) rfl dX5_doRest_7) (fun u H locs hp hw => ?_)
  have hp := hp.symm
  subst hp
  refine lv_aload_n cx.x cx.b dX5_doRest_10 rfl (lv_at hl 0 rfl) ?_
  refine lv_iload_n cx.x cx.b dX5_doRest_11 rfl (lv_at hl 1 rfl) ?_
  refine lv_aload_n cx.x cx.b dX5_doRest_12 rfl (lv_at hl 0 rfl) ?_
  refine gt_f (v := .int (s_F σ 6 i)) cx hw (13 + i) (kw_d (sBeg 0 7 σ) hn) (cls_d hd) (inD_all _ hd) 6 (by decide) tw_147 ⟨rfl, rfl, Or.inr tw_148⟩ rfl dX5_doRest_13 ?_
  refine lv_iadd cx.x cx.b dX5_doRest_16 ?_
  refine cgo_i cx hw (rSU_i (x := ⟨"BakeHouse$Sour", "doRest", "(I)I"⟩) (n := 1) (As := [.int (mi + (s_F σ 6 i))]) (rest := []) cx hw (c_X8_doRest l D G Q (sBeg 0 7 σ) i hn hd (mi + (s_F σ 6 i))) ⟨rfl, tw_495, tw_959, tw_262, tw_496, tw_9, tw_497, by decide, sb_up_rf⟩ ⟨by decide +kernel, rfl, hl.1, (Nat.le_of_ble_eq_true rfl), ⟨(Nat.le_of_ble_eq_true rfl), (Nat.le_of_ble_eq_true rfl)⟩, ⟨(Nat.le_of_ble_eq_true rfl), (Nat.le_of_ble_eq_true rfl)⟩, rfl, rfl⟩ rfl (kw_d (sBeg 0 7 σ) hn) (cls_d hd) dX5_doRest_17) (fun r u H locs hp hw => ?_)
  obtain ⟨h8, h9⟩ := hp
  have h8 := h8.symm
  have h9 := h9.symm
  subst h8
  subst h9
  exact ret_i (pR4 i (mi + (s_F σ 6 i)) (sBeg 0 7 σ)) cx hw ⟨rfl, rfl⟩ dX5_doRest_20 (Nat.le_of_ble_eq_true rfl) (Nat.le_of_ble_eq_true rfl)
set_option maxHeartbeats 4000000 in
set_option maxRecDepth 100000 in
theorem c_X1_doRest (l : Launch) (hl0 : l.stackTraces = false) (D : va_G) (G : Nat → Nat) (Q : Nat → ClassId) (σ : St) (i : Nat) (hn : i < s_n σ) (hd : s_k σ i < 8) (mi : Int32) : XI l yX1_doRest cX1_doRest 3 .int ({ frames := 6, cells := 1, slots := 6, locals := 90 }) D cls (tyl Q) [.ref (s_a σ i), .int mi] (kw G Q) (kw G Q σ) (fun r u => ¬ 90 ≤ s_F (pR5a i mi σ) 4 i ∧ r = s_F (pR5a i mi σ) 4 i ∧ u = pR5a i mi σ) (fun E u => 90 ≤ s_F (pR5a i mi σ) 4 i ∧ E = "java/lang/IllegalStateException" ∧ u = pR5f i mi σ) 1 6 := by
  refine XI_of (by decide) (Nat.le_of_ble_eq_true rfl) ?_
  intro p e s m args below meth c A ls htab cx hw hl
  have hl : lv_has ls 3 [(0, .ref (s_a σ i)), (1, .int mi)] := hl
  refine lv_aload_n cx.x cx.b dX1_doRest_0 rfl (lv_at hl 0 rfl) ?_
  refine gt_f (v := .ref (G 1)) cx hw (13 + i) (kw_d σ hn) (cls_d hd) (inD_all _ hd) 0 (by decide) tw_119 ⟨rfl, rfl, Or.inr tw_120⟩ rfl dX1_doRest_1 ?_
  refine lv_iconst (v := 0) cx.x cx.b dX1_doRest_4 (by decide) ?_
  refine lv_iconst (v := 5) cx.x cx.b dX1_doRest_5 (by decide) ?_
  refine cgo_v cx hw (rV_v (q0 := 1) (n := 2) (As := [.int 0, .int 5]) (rest := []) cx hw (c_X0_begin l D G Q σ 0 5) (gd_V tw_405 tw_306 tw_307 tw_2 tw_308) rfl ⟨by decide +kernel, rfl, hl.1, (Nat.le_of_ble_eq_true rfl), ⟨(Nat.le_of_ble_eq_true rfl), (Nat.le_of_ble_eq_true rfl)⟩, ⟨(Nat.le_of_ble_eq_true rfl), (Nat.le_of_ble_eq_true rfl)⟩, rfl, rfl⟩ rfl (kw_b σ) rfl dX1_doRest_6) (fun u H locs hp hw => ?_)
  have hp := hp.symm
  subst hp
  refine lv_aload_n cx.x cx.b dX1_doRest_9 rfl (lv_at hl 0 rfl) ?_
  refine lv_iload_n cx.x cx.b dX1_doRest_10 rfl (lv_at hl 1 rfl) ?_
  refine cgo_i cx hw (rSU_i (x := ⟨"BakeHouse$Sweet", "doRest", "(I)I"⟩) (n := 1) (As := [.int mi]) (rest := []) cx hw (c_X2_doRest l D G Q (sBeg 0 5 σ) i hn hd mi) ⟨rfl, tw_406, tw_407, tw_232, tw_399, tw_5, tw_506, by decide, (sb_up_of (cx.ts _ tw_202) (cx.ts _ tw_273) (va_Nw.use rfl (cx.ev.2.2.2.2.1 _ (by decide +kernel))))⟩ ⟨by decide +kernel, rfl, hl.1, (Nat.le_of_ble_eq_true rfl), ⟨(Nat.le_of_ble_eq_true rfl), (Nat.le_of_ble_eq_true rfl)⟩, ⟨(Nat.le_of_ble_eq_true rfl), (Nat.le_of_ble_eq_true rfl)⟩, rfl, rfl⟩ rfl (kw_d (sBeg 0 5 σ) hn) (cls_d hd) dX1_doRest_11) (fun r u H locs hp hw => ?_)
  obtain ⟨h8, h9⟩ := hp
  have h8 := h8.symm
  have h9 := h9.symm
  subst h8
  subst h9
  refine lv_istore_n (lv' := [(2, .int (s_F (pR0 i mi (sBeg 0 5 σ)) 4 i)), (0, .ref (s_a σ i)), (1, .int mi)]) cx.x cx.b dX1_doRest_14 rfl hl (by decide) rfl (fun ls hl => ?_)
  refine lv_aload_n cx.x cx.b dX1_doRest_15 rfl (lv_at hl 1 rfl) ?_
  refine gt_f (v := .int (s_F (pR0 i mi (sBeg 0 5 σ)) 4 i)) cx hw (13 + i) (kw_d (pR0 i mi (sBeg 0 5 σ)) hn) (cls_d hd) (inD_all _ hd) 4 (by decide) tw_137 ⟨rfl, rfl, Or.inr tw_138⟩ rfl dX1_doRest_16 ?_
  refine lv_bipush (v := 90) cx.x cx.b dX1_doRest_19 (by decide) ?_
  refine lv_icmp_lt (tgt := 53) cx.x cx.b dX1_doRest_21 (by decide) (fun hb21 => ?_) (fun hb21 => ?_)
  · refine lv_iload_n cx.x cx.b dX1_doRest_53 rfl (lv_at hl 0 rfl) ?_
    exact xret_i (pR0 i mi (sBeg 0 5 σ)) cx hw ⟨Int32.not_le.mpr hb21, rfl, rfl⟩ dX1_doRest_54 (Nat.le_of_ble_eq_true rfl) (Nat.le_of_ble_eq_true rfl)
  · refine lv_aload_n cx.x cx.b dX1_doRest_24 rfl (lv_at hl 1 rfl) ?_
    refine lv_bipush (v := 10) cx.x cx.b dX1_doRest_25 (by decide) ?_
    refine pt_f cx hw (13 + i) (kw_d (pR0 i mi (sBeg 0 5 σ)) hn) (cls_d hd) (inD_all _ hd) tyX2 tyX2_ok nmX2 4 (by decide) tw_137 ⟨rfl, rfl, Or.inr tw_138⟩ rfl rfl rfl rfl (Nat.le_of_ble_eq_true rfl) dX1_doRest_27 (w1 := kw G Q (sF 4 i 10 (pR0 i mi (sBeg 0 5 σ)))) (kw_sF (by decide)) (fun H locs hw => ?_)
    refine lv_aload_n cx.x cx.b dX1_doRest_30 rfl (lv_at hl 1 rfl) ?_
    refine gt_f (v := .ref (G 1)) cx hw (13 + i) (kw_d (sF 4 i 10 (pR0 i mi (sBeg 0 5 σ))) hn) (cls_d hd) (inD_all _ hd) 0 (by decide) tw_119 ⟨rfl, rfl, Or.inr tw_120⟩ rfl dX1_doRest_31 ?_
    refine lv_dup cx.x cx.b dX1_doRest_34 rfl ?_
    refine gt_f (v := .int (s_c σ 4)) cx hw 1 (kw_b (sF 4 i 10 (pR0 i mi (sBeg 0 5 σ)))) rfl inX0 4 (by decide) tw_44 ⟨rfl, rfl, Or.inl rfl⟩ rfl dX1_doRest_35 ?_
    refine lv_iconst (v := 1) cx.x cx.b dX1_doRest_38 (by decide) ?_
    refine lv_iadd cx.x cx.b dX1_doRest_39 ?_
    refine pt_f cx hw 1 (kw_b (sF 4 i 10 (pR0 i mi (sBeg 0 5 σ)))) rfl inX0 tyX0 tyX0_ok nmX0 4 (by decide) tw_44 ⟨rfl, rfl, Or.inl rfl⟩ rfl rfl rfl rfl (Nat.le_of_ble_eq_true rfl) dX1_doRest_40 (w1 := kw G Q (sC 4 ((s_c σ 4) + 1) (sF 4 i 10 (pR0 i mi (sBeg 0 5 σ))))) (kw_sC (by decide)) (fun H locs hw => ?_)
    exact thr_i (sC 4 ((s_c σ 4) + 1) (sF 4 i 10 (pR0 i mi (sBeg 0 5 σ)))) hl0 htab cx hw (ok_ISE cx) hl.1 dX1_doRest_43 dX1_doRest_46 dX1_doRest_47 dX1_doRest_49 dX1_doRest_52 ⟨(Nat.le_of_ble_eq_true rfl), (Nat.le_of_ble_eq_true rfl), (Nat.le_of_ble_eq_true rfl), (Nat.le_of_ble_eq_true rfl)⟩ ⟨Int32.not_lt.mp hb21, rfl, rfl⟩ (Nat.le_of_ble_eq_true rfl) (Nat.le_of_ble_eq_true rfl)
set_option maxHeartbeats 4000000 in
set_option maxRecDepth 100000 in
theorem c_X2_doFold (l : Launch) (D : va_G) (G : Nat → Nat) (Q : Nat → ClassId) (σ : St) (i : Nat) (hn : i < s_n σ) (hd : s_k σ i < 8) : MV l yX2_doFold cX2_doFold 1 ({ frames := 1, cells := 0, slots := 0, locals := 22 }) D cls (tyl Q) [.ref (s_a σ i)] (kw G Q) (kw G Q σ) (fun u => u = pF0 i σ) 0 0 := by
  refine MV_of (by decide) (Nat.le_of_ble_eq_true rfl) ?_
  intro p e s m args below meth c A ls cx hw hl
  have hl : lv_has ls 1 [(0, .ref (s_a σ i))] := hl
  refine lv_aload_n cx.x cx.b dX2_doFold_0 rfl (lv_at hl 0 rfl) ?_
  refine gt_f (v := .ref (G 1)) cx hw (13 + i) (kw_d σ hn) (cls_d hd) (inD_all _ hd) 0 (by decide) tw_118 ⟨rfl, rfl, Or.inl rfl⟩ rfl dX2_doFold_1 ?_
  refine lv_iconst (v := 1) cx.x cx.b dX2_doFold_4 (by decide) ?_
  refine lv_iconst (v := 0) cx.x cx.b dX2_doFold_5 (by decide) ?_
  refine cgo_v cx hw (rV_v (q0 := 1) (n := 2) (As := [.int 1, .int 0]) (rest := []) cx hw (c_X0_begin l D G Q σ 1 0) (gd_V tw_330 tw_306 tw_307 tw_2 tw_308) rfl ⟨by decide +kernel, rfl, hl.1, (Nat.le_of_ble_eq_true rfl), ⟨(Nat.le_of_ble_eq_true rfl), (Nat.le_of_ble_eq_true rfl)⟩, ⟨(Nat.le_of_ble_eq_true rfl), (Nat.le_of_ble_eq_true rfl)⟩, rfl, rfl⟩ rfl (kw_b σ) rfl dX2_doFold_6) (fun u H locs hp hw => ?_)
  have hp := hp.symm
  subst hp
  refine lv_aload_n cx.x cx.b dX2_doFold_9 rfl (lv_at hl 0 rfl) ?_
  refine lv_aload_n cx.x cx.b dX2_doFold_10 rfl (lv_at hl 0 rfl) ?_
  refine gt_f (v := .int (s_F σ 4 i)) cx hw (13 + i) (kw_d (sBeg 1 0 σ) hn) (cls_d hd) (inD_all _ hd) 4 (by decide) tw_136 ⟨rfl, rfl, Or.inl rfl⟩ rfl dX2_doFold_11 ?_
  refine lv_iconst (v := 2) cx.x cx.b dX2_doFold_14 (by decide) ?_
  refine lv_idiv cx.x cx.b dX2_doFold_15 (by decide) ?_
  refine pt_f cx hw (13 + i) (kw_d (sBeg 1 0 σ) hn) (cls_d hd) (inD_all _ hd) tyX2 tyX2_ok nmX2 4 (by decide) tw_136 ⟨rfl, rfl, Or.inl rfl⟩ rfl rfl rfl rfl (Nat.le_of_ble_eq_true rfl) dX2_doFold_16 (w1 := kw G Q (sF 4 i ((s_F σ 4 i) / 2) (sBeg 1 0 σ))) (kw_sF (by decide)) (fun H locs hw => ?_)
  refine lv_aload_n cx.x cx.b dX2_doFold_19 rfl (lv_at hl 0 rfl) ?_
  refine lv_dup cx.x cx.b dX2_doFold_20 rfl ?_
  refine gt_f (v := .int (s_F σ 5 i)) cx hw (13 + i) (kw_d (sF 4 i ((s_F σ 4 i) / 2) (sBeg 1 0 σ)) hn) (cls_d hd) (inD_all _ hd) 5 (by decide) tw_140 ⟨rfl, rfl, Or.inl rfl⟩ rfl dX2_doFold_21 ?_
  refine lv_iconst (v := 1) cx.x cx.b dX2_doFold_24 (by decide) ?_
  refine lv_iadd cx.x cx.b dX2_doFold_25 ?_
  refine pt_f cx hw (13 + i) (kw_d (sF 4 i ((s_F σ 4 i) / 2) (sBeg 1 0 σ)) hn) (cls_d hd) (inD_all _ hd) tyX2 tyX2_ok nmX2 5 (by decide) tw_140 ⟨rfl, rfl, Or.inl rfl⟩ rfl rfl rfl rfl (Nat.le_of_ble_eq_true rfl) dX2_doFold_26 (w1 := kw G Q (sF 5 i ((s_F σ 5 i) + 1) (sF 4 i ((s_F σ 4 i) / 2) (sBeg 1 0 σ)))) (kw_sF (by decide)) (fun H locs hw => ?_)
  exact ret_v (sF 5 i ((s_F σ 5 i) + 1) (sF 4 i ((s_F σ 4 i) / 2) (sBeg 1 0 σ))) cx hw rfl dX2_doFold_29 (Nat.le_of_ble_eq_true rfl) (Nat.le_of_ble_eq_true rfl)
set_option maxHeartbeats 4000000 in
set_option maxRecDepth 100000 in
theorem c_X9_doFold (l : Launch) (D : va_G) (G : Nat → Nat) (Q : Nat → ClassId) (σ : St) (i : Nat) (hn : i < s_n σ) (hd : s_k σ i < 8) : MV l yX9_doFold cX9_doFold 1 ({ frames := 2, cells := 0, slots := 0, locals := 42 }) D cls (tyl Q) [.ref (s_a σ i)] (kw G Q) (kw G Q σ) (fun u => u = pF3 i σ) 0 0 := by
  refine MV_of (by decide) (Nat.le_of_ble_eq_true rfl) ?_
  intro p e s m args below meth c A ls cx hw hl
  have hl : lv_has ls 1 [(0, .ref (s_a σ i))] := hl
  refine lv_aload_n cx.x cx.b dX9_doFold_0 rfl (lv_at hl 0 rfl) ?_
  refine gt_f (v := .ref (G 1)) cx hw (13 + i) (kw_d σ hn) (cls_d hd) (inD_all _ hd) 0 (by decide) tw_127 ⟨rfl, rfl, Or.inr tw_128⟩ rfl dX9_doFold_1 ?_
  refine lv_iconst (v := 1) cx.x cx.b dX9_doFold_4 (by decide) ?_
  refine lv_iconst (v := 3) cx.x cx.b dX9_doFold_5 (by decide) ?_
  refine cgo_v cx hw (rV_v (q0 := 1) (n := 2) (As := [.int 1, .int 3]) (rest := []) cx hw (c_X0_begin l D G Q σ 1 3) (gd_V tw_305 tw_306 tw_307 tw_2 tw_308) rfl ⟨by decide +kernel, rfl, hl.1, (Nat.le_of_ble_eq_true rfl), ⟨(Nat.le_of_ble_eq_true rfl), (Nat.le_of_ble_eq_true rfl)⟩, ⟨(Nat.le_of_ble_eq_true rfl), (Nat.le_of_ble_eq_true rfl)⟩, rfl, rfl⟩ rfl (kw_b σ) rfl dX9_doFold_6) (fun u H locs hp hw => ?_)
  have hp := hp.symm
  subst hp
  refine lv_aload_n cx.x cx.b dX9_doFold_9 rfl (lv_at hl 0 rfl) ?_
  refine cgo_v cx hw (rSU_v (x := ⟨"BakeHouse$Leavened", "doFold", "()V"⟩) (n := 0) (As := []) (rest := []) cx hw (c_X2_doFold l D G Q (sBeg 1 3 σ) i hn hd ) ⟨rfl, tw_309, tw_310, tw_202, tw_299, tw_5, tw_329, by decide, (sb_up_of (cx.ts _ tw_172) (cx.ts _ tw_273) (va_Nw.use rfl (cx.ev.2.2.2.2.1 _ (by decide +kernel))))⟩ ⟨by decide +kernel, rfl, hl.1, (Nat.le_of_ble_eq_true rfl), ⟨(Nat.le_of_ble_eq_true rfl), (Nat.le_of_ble_eq_true rfl)⟩, ⟨(Nat.le_of_ble_eq_true rfl), (Nat.le_of_ble_eq_true rfl)⟩, rfl, rfl⟩ rfl (kw_d (sBeg 1 3 σ) hn) (cls_d hd) dX9_doFold_10) (fun u H locs hp hw => ?_)
  have hp := hp.symm
  subst hp
  refine lv_aload_n cx.x cx.b dX9_doFold_13 rfl (lv_at hl 0 rfl) ?_
  refine cgo_v cx hw (rSU_v (x := ⟨"BakeHouse$Leavened", "doFold", "()V"⟩) (n := 0) (As := []) (rest := []) cx hw (c_X2_doFold l D G Q (pF0 i (sBeg 1 3 σ)) i hn hd ) ⟨rfl, tw_309, tw_310, tw_202, tw_299, tw_5, tw_329, by decide, (sb_up_of (cx.ts _ tw_172) (cx.ts _ tw_273) (va_Nw.use rfl (cx.ev.2.2.2.2.1 _ (by decide +kernel))))⟩ ⟨by decide +kernel, rfl, hl.1, (Nat.le_of_ble_eq_true rfl), ⟨(Nat.le_of_ble_eq_true rfl), (Nat.le_of_ble_eq_true rfl)⟩, ⟨(Nat.le_of_ble_eq_true rfl), (Nat.le_of_ble_eq_true rfl)⟩, rfl, rfl⟩ rfl (kw_d (pF0 i (sBeg 1 3 σ)) hn) (cls_d hd) dX9_doFold_14) (fun u H locs hp hw => ?_)
  have hp := hp.symm
  subst hp
  exact ret_v (pF0 i (pF0 i (sBeg 1 3 σ))) cx hw rfl dX9_doFold_17 (Nat.le_of_ble_eq_true rfl) (Nat.le_of_ble_eq_true rfl)
set_option maxHeartbeats 4000000 in
set_option maxRecDepth 100000 in
theorem c_X8_doFold (l : Launch) (D : va_G) (G : Nat → Nat) (Q : Nat → ClassId) (σ : St) (i : Nat) (hn : i < s_n σ) (hd : s_k σ i < 8) (ac : Nat) (hac : s_F σ 6 i = nI ac) (hab : ac < 2 ^ 30) : MV l yX8_doFold cX8_doFold 1 ({ frames := 2, cells := 0, slots := 0, locals := 42 }) D cls (tyl Q) [.ref (s_a σ i)] (kw G Q) (kw G Q σ) (fun u => u = pF4 i σ) 0 0 := by
  refine MV_of (by decide) (Nat.le_of_ble_eq_true rfl) ?_
  intro p e s m args below meth c A ls cx hw hl
  have hl : lv_has ls 1 [(0, .ref (s_a σ i))] := hl
  refine lv_aload_n cx.x cx.b dX8_doFold_0 rfl (lv_at hl 0 rfl) ?_
  refine gt_f (v := .ref (G 1)) cx hw (13 + i) (kw_d σ hn) (cls_d hd) (inD_all _ hd) 0 (by decide) tw_123 ⟨rfl, rfl, Or.inr tw_124⟩ rfl dX8_doFold_1 ?_
  refine lv_iconst (v := 1) cx.x cx.b dX8_doFold_4 (by decide) ?_
  refine lv_iconst (v := 4) cx.x cx.b dX8_doFold_5 (by decide) ?_
  refine cgo_v cx hw (rV_v (q0 := 1) (n := 2) (As := [.int 1, .int 4]) (rest := []) cx hw (c_X0_begin l D G Q σ 1 4) (gd_V tw_320 tw_306 tw_307 tw_2 tw_308) rfl ⟨by decide +kernel, rfl, hl.1, (Nat.le_of_ble_eq_true rfl), ⟨(Nat.le_of_ble_eq_true rfl), (Nat.le_of_ble_eq_true rfl)⟩, ⟨(Nat.le_of_ble_eq_true rfl), (Nat.le_of_ble_eq_true rfl)⟩, rfl, rfl⟩ rfl (kw_b σ) rfl dX8_doFold_6) (fun u H locs hp hw => ?_)
  have hp := hp.symm
  subst hp
  refine lv_aload_n cx.x cx.b dX8_doFold_9 rfl (lv_at hl 0 rfl) ?_
  refine cgo_v cx hw (rSU_v (x := ⟨"BakeHouse$Rye", "doFold", "()V"⟩) (n := 0) (As := []) (rest := []) cx hw (c_X2_doFold l D G Q (sBeg 1 4 σ) i hn hd ) ⟨rfl, tw_321, tw_322, tw_217, tw_299, tw_5, tw_329, by decide, (sb_up_of (cx.ts _ tw_187) (cx.ts _ tw_273) (va_Nw.use rfl (cx.ev.2.2.2.2.1 _ (by decide +kernel))))⟩ ⟨by decide +kernel, rfl, hl.1, (Nat.le_of_ble_eq_true rfl), ⟨(Nat.le_of_ble_eq_true rfl), (Nat.le_of_ble_eq_true rfl)⟩, ⟨(Nat.le_of_ble_eq_true rfl), (Nat.le_of_ble_eq_true rfl)⟩, rfl, rfl⟩ rfl (kw_d (sBeg 1 4 σ) hn) (cls_d hd) dX8_doFold_10) (fun u H locs hp hw => ?_)
  have hp := hp.symm
  subst hp
  refine lv_aload_n cx.x cx.b dX8_doFold_13 rfl (lv_at hl 0 rfl) ?_
  refine lv_aload_n cx.x cx.b dX8_doFold_14 rfl (lv_at hl 0 rfl) ?_
  refine gt_f (v := .int (s_F σ 6 i)) cx hw (13 + i) (kw_d (pF0 i (sBeg 1 4 σ)) hn) (cls_d hd) (inD_all _ hd) 6 (by decide) tw_145 ⟨rfl, rfl, Or.inr tw_146⟩ rfl dX8_doFold_15 ?_
  refine lv_iconst (v := 1) cx.x cx.b dX8_doFold_18 (by decide) ?_
  refine lv_isub cx.x cx.b dX8_doFold_19 ?_
  refine lv_iconst (v := 0) cx.x cx.b dX8_doFold_20 (by decide) ?_
  refine va_mmax cx.x cx.b (cx.ml.trans hl.1.symm) cx.ow (cx.ts _ tw_323) (cx.ts _ tw_324) (cx.ts _ tw_18) (cx.ts _ tw_325) (Nat.le_of_ble_eq_true rfl) (Nat.le_of_ble_eq_true rfl) (Nat.le_of_ble_eq_true rfl) (Nat.le_of_ble_eq_true rfl) dX8_doFold_21 ?_
  refine pt_f cx hw (13 + i) (kw_d (pF0 i (sBeg 1 4 σ)) hn) (cls_d hd) (inD_all _ hd) tyX2 tyX2_ok nmX2 6 (by decide) tw_145 ⟨rfl, rfl, Or.inr tw_146⟩ rfl rfl rfl rfl (Nat.le_of_ble_eq_true rfl) dX8_doFold_24 (w1 := kw G Q (sF 6 i (if ((s_F σ 6 i) - 1) < 0 then 0 else ((s_F σ 6 i) - 1)) (pF0 i (sBeg 1 4 σ)))) (kw_sF (by decide)) (fun H locs hw => ?_)
  exact ret_v (sF 6 i (if ((s_F σ 6 i) - 1) < 0 then 0 else ((s_F σ 6 i) - 1)) (pF0 i (sBeg 1 4 σ))) cx hw (by show sF 6 i (if s_F σ 6 i - 1 < 0 then 0 else s_F σ 6 i - 1) _ = sF 6 i (dec0 (s_F σ 6 i)) _; rw [hac, acid_max hab]) dX8_doFold_27 (Nat.le_of_ble_eq_true rfl) (Nat.le_of_ble_eq_true rfl)
set_option maxHeartbeats 4000000 in
set_option maxRecDepth 100000 in
theorem c_X3_doFold (l : Launch) (D : va_G) (G : Nat → Nat) (Q : Nat → ClassId) (σ : St) (i : Nat) (hn : i < s_n σ) (hd : s_k σ i < 8) : MV l yX3_doFold cX3_doFold 1 ({ frames := 1, cells := 0, slots := 0, locals := 22 }) D cls (tyl Q) [.ref (s_a σ i)] (kw G Q) (kw G Q σ) (fun u => u = pF6 i σ) 0 0 := by
  refine MV_of (by decide) (Nat.le_of_ble_eq_true rfl) ?_
  intro p e s m args below meth c A ls cx hw hl
  have hl : lv_has ls 1 [(0, .ref (s_a σ i))] := hl
  refine lv_aload_n cx.x cx.b dX3_doFold_0 rfl (lv_at hl 0 rfl) ?_
  refine gt_f (v := .ref (G 1)) cx hw (13 + i) (kw_d σ hn) (cls_d hd) (inD_all _ hd) 0 (by decide) tw_129 ⟨rfl, rfl, Or.inr tw_130⟩ rfl dX3_doFold_1 ?_
  refine lv_iconst (v := 1) cx.x cx.b dX3_doFold_4 (by decide) ?_
  refine lv_bipush (v := 6) cx.x cx.b dX3_doFold_5 (by decide) ?_
  refine cgo_v cx hw (rV_v (q0 := 1) (n := 2) (As := [.int 1, .int 6]) (rest := []) cx hw (c_X0_begin l D G Q σ 1 6) (gd_V tw_315 tw_306 tw_307 tw_2 tw_308) rfl ⟨by decide +kernel, rfl, hl.1, (Nat.le_of_ble_eq_true rfl), ⟨(Nat.le_of_ble_eq_true rfl), (Nat.le_of_ble_eq_true rfl)⟩, ⟨(Nat.le_of_ble_eq_true rfl), (Nat.le_of_ble_eq_true rfl)⟩, rfl, rfl⟩ rfl (kw_b σ) rfl dX3_doFold_7) (fun u H locs hp hw => ?_)
  have hp := hp.symm
  subst hp
  refine lv_aload_n cx.x cx.b dX3_doFold_10 rfl (lv_at hl 0 rfl) ?_
  refine lv_dup cx.x cx.b dX3_doFold_11 rfl ?_
  refine gt_f (v := .int (s_F σ 5 i)) cx hw (13 + i) (kw_d (sBeg 1 6 σ) hn) (cls_d hd) (inD_all _ hd) 5 (by decide) tw_141 ⟨rfl, rfl, Or.inr tw_142⟩ rfl dX3_doFold_12 ?_
  refine lv_iconst (v := 1) cx.x cx.b dX3_doFold_15 (by decide) ?_
  refine lv_iadd cx.x cx.b dX3_doFold_16 ?_
  refine pt_f cx hw (13 + i) (kw_d (sBeg 1 6 σ) hn) (cls_d hd) (inD_all _ hd) tyX2 tyX2_ok nmX2 5 (by decide) tw_141 ⟨rfl, rfl, Or.inr tw_142⟩ rfl rfl rfl rfl (Nat.le_of_ble_eq_true rfl) dX3_doFold_17 (w1 := kw G Q (sF 5 i ((s_F σ 5 i) + 1) (sBeg 1 6 σ))) (kw_sF (by decide)) (fun H locs hw => ?_)
  exact ret_v (sF 5 i ((s_F σ 5 i) + 1) (sBeg 1 6 σ)) cx hw rfl dX3_doFold_20 (Nat.le_of_ble_eq_true rfl) (Nat.le_of_ble_eq_true rfl)
set_option maxHeartbeats 4000000 in
set_option maxRecDepth 100000 in
theorem c_X2_doBake (l : Launch) (D : va_G) (G : Nat → Nat) (Q : Nat → ClassId) (σ : St) (i : Nat) (hn : i < s_n σ) (hd : s_k σ i < 8) (ht : Int32) : MI l yX2_doBake cX2_doBake 2 .boolean ({ frames := 1, cells := 0, slots := 0, locals := 22 }) D cls (tyl Q) [.ref (s_a σ i), .int ht] (kw G Q) (kw G Q σ) (fun r u => r = b01 (20 ≤ s_F (pB0 i ht σ) 7 i) ∧ u = pB0 i ht σ) 0 0 := by
  refine MI_of (by decide) (Nat.le_of_ble_eq_true rfl) ?_
  intro p e s m args below meth c A ls cx hw hl
  have hl : lv_has ls 2 [(0, .ref (s_a σ i)), (1, .int ht)] := hl
  refine lv_aload_n cx.x cx.b dX2_doBake_0 rfl (lv_at hl 0 rfl) ?_
  refine gt_f (v := .ref (G 1)) cx hw (13 + i) (kw_d σ hn) (cls_d hd) (inD_all _ hd) 0 (by decide) tw_118 ⟨rfl, rfl, Or.inl rfl⟩ rfl dX2_doBake_1 ?_
  refine lv_iconst (v := 3) cx.x cx.b dX2_doBake_4 (by decide) ?_
  refine lv_iconst (v := 0) cx.x cx.b dX2_doBake_5 (by decide) ?_
  refine cgo_v cx hw (rV_v (q0 := 1) (n := 2) (As := [.int 3, .int 0]) (rest := []) cx hw (c_X0_begin l D G Q σ 3 0) (gd_V tw_330 tw_306 tw_307 tw_2 tw_308) rfl ⟨by decide +kernel, rfl, hl.1, (Nat.le_of_ble_eq_true rfl), ⟨(Nat.le_of_ble_eq_true rfl), (Nat.le_of_ble_eq_true rfl)⟩, ⟨(Nat.le_of_ble_eq_true rfl), (Nat.le_of_ble_eq_true rfl)⟩, rfl, rfl⟩ rfl (kw_b σ) rfl dX2_doBake_6) (fun u H locs hp hw => ?_)
  have hp := hp.symm
  subst hp
  refine lv_aload_n cx.x cx.b dX2_doBake_9 rfl (lv_at hl 0 rfl) ?_
  refine lv_dup cx.x cx.b dX2_doBake_10 rfl ?_
  refine gt_f (v := .int (s_F σ 7 i)) cx hw (13 + i) (kw_d (sBeg 3 0 σ) hn) (cls_d hd) (inD_all _ hd) 7 (by decide) tw_150 ⟨rfl, rfl, Or.inl rfl⟩ rfl dX2_doBake_11 ?_
  refine lv_iload_n cx.x cx.b dX2_doBake_14 rfl (lv_at hl 1 rfl) ?_
  refine lv_aload_n cx.x cx.b dX2_doBake_15 rfl (lv_at hl 0 rfl) ?_
  refine gt_f (v := .int (s_F σ 4 i)) cx hw (13 + i) (kw_d (sBeg 3 0 σ) hn) (cls_d hd) (inD_all _ hd) 4 (by decide) tw_136 ⟨rfl, rfl, Or.inl rfl⟩ rfl dX2_doBake_16 ?_
  refine lv_iadd cx.x cx.b dX2_doBake_19 ?_
  refine lv_bipush (v := 10) cx.x cx.b dX2_doBake_20 (by decide) ?_
  refine lv_idiv cx.x cx.b dX2_doBake_22 (by decide) ?_
  refine lv_iadd cx.x cx.b dX2_doBake_23 ?_
  refine pt_f cx hw (13 + i) (kw_d (sBeg 3 0 σ) hn) (cls_d hd) (inD_all _ hd) tyX2 tyX2_ok nmX2 7 (by decide) tw_150 ⟨rfl, rfl, Or.inl rfl⟩ rfl rfl rfl rfl (Nat.le_of_ble_eq_true rfl) dX2_doBake_24 (w1 := kw G Q (sF 7 i ((s_F σ 7 i) + ((ht + (s_F σ 4 i)) / 10)) (sBeg 3 0 σ))) (kw_sF (by decide)) (fun H locs hw => ?_)
  refine lv_aload_n cx.x cx.b dX2_doBake_27 rfl (lv_at hl 0 rfl) ?_
  refine cgo_i cx hw (rU_i (x := ⟨"BakeHouse$Dough", "isDoneByCrust", "()Z"⟩) (n := 0) (As := []) (rest := []) cx hw (c_X2_isDoneByCrust l D G Q (sF 7 i ((s_F σ 7 i) + ((ht + (s_F σ 4 i)) / 10)) (sBeg 3 0 σ)) i hn hd) (cwu_idc hd) ⟨by decide +kernel, rfl, hl.1, (Nat.le_of_ble_eq_true rfl), ⟨(Nat.le_of_ble_eq_true rfl), (Nat.le_of_ble_eq_true rfl)⟩, ⟨(Nat.le_of_ble_eq_true rfl), (Nat.le_of_ble_eq_true rfl)⟩, rfl, rfl⟩ rfl (kw_d (sF 7 i ((s_F σ 7 i) + ((ht + (s_F σ 4 i)) / 10)) (sBeg 3 0 σ)) hn) (cls_d hd) dX2_doBake_28) (fun r u H locs hp hw => ?_)
  obtain ⟨h8, h9⟩ := hp
  have h8 := h8.symm
  have h9 := h9.symm
  subst h8
  subst h9
  exact ret_z (sF 7 i ((s_F σ 7 i) + ((ht + (s_F σ 4 i)) / 10)) (sBeg 3 0 σ)) cx hw b01_nar ⟨rfl, rfl⟩ dX2_doBake_31 (Nat.le_of_ble_eq_true rfl) (Nat.le_of_ble_eq_true rfl)
set_option maxHeartbeats 4000000 in
set_option maxRecDepth 100000 in
theorem c_X6_doBake (l : Launch) (D : va_G) (G : Nat → Nat) (Q : Nat → ClassId) (σ : St) (i : Nat) (hn : i < s_n σ) (hd : s_k σ i < 8) (ht : Int32) : MI l yX6_doBake cX6_doBake 2 .boolean ({ frames := 2, cells := 0, slots := 0, locals := 43 }) D cls (tyl Q) [.ref (s_a σ i), .int ht] (kw G Q) (kw G Q σ) (fun r u => r = b01 (20 ≤ s_F (pB2 i ht σ) 7 i) ∧ u = pB2 i ht σ) 0 0 := by
  refine MI_of (by decide) (Nat.le_of_ble_eq_true rfl) ?_
  intro p e s m args below meth c A ls cx hw hl
  have hl : lv_has ls 2 [(0, .ref (s_a σ i)), (1, .int ht)] := hl
  refine lv_aload_n cx.x cx.b dX6_doBake_0 rfl (lv_at hl 0 rfl) ?_
  refine gt_f (v := .ref (G 1)) cx hw (13 + i) (kw_d σ hn) (cls_d hd) (inD_all _ hd) 0 (by decide) tw_125 ⟨rfl, rfl, Or.inr tw_126⟩ rfl dX6_doBake_1 ?_
  refine lv_iconst (v := 3) cx.x cx.b dX6_doBake_4 (by decide) ?_
  refine lv_iconst (v := 2) cx.x cx.b dX6_doBake_5 (by decide) ?_
  refine cgo_v cx hw (rV_v (q0 := 1) (n := 2) (As := [.int 3, .int 2]) (rest := []) cx hw (c_X0_begin l D G Q σ 3 2) (gd_V tw_356 tw_306 tw_307 tw_2 tw_308) rfl ⟨by decide +kernel, rfl, hl.1, (Nat.le_of_ble_eq_true rfl), ⟨(Nat.le_of_ble_eq_true rfl), (Nat.le_of_ble_eq_true rfl)⟩, ⟨(Nat.le_of_ble_eq_true rfl), (Nat.le_of_ble_eq_true rfl)⟩, rfl, rfl⟩ rfl (kw_b σ) rfl dX6_doBake_6) (fun u H locs hp hw => ?_)
  have hp := hp.symm
  subst hp
  refine lv_aload_n cx.x cx.b dX6_doBake_9 rfl (lv_at hl 0 rfl) ?_
  refine lv_iload_n cx.x cx.b dX6_doBake_10 rfl (lv_at hl 1 rfl) ?_
  refine lv_bipush (v := 30) cx.x cx.b dX6_doBake_11 (by decide) ?_
  refine lv_isub cx.x cx.b dX6_doBake_13 ?_
  refine cgo_i cx hw (rSU_i (x := ⟨"BakeHouse$Leavened", "doBake", "(I)Z"⟩) (n := 1) (As := [.int (ht - 30)]) (rest := []) cx hw (c_X2_doBake l D G Q (sBeg 3 2 σ) i hn hd (ht - 30)) ⟨rfl, tw_357, tw_343, tw_187, tw_336, tw_5, tw_361, by decide, (sb_up_of (cx.ts _ tw_172) (cx.ts _ tw_273) (va_Nw.use rfl (cx.ev.2.2.2.2.1 _ (by decide +kernel))))⟩ ⟨by decide +kernel, rfl, hl.1, (Nat.le_of_ble_eq_true rfl), ⟨(Nat.le_of_ble_eq_true rfl), (Nat.le_of_ble_eq_true rfl)⟩, ⟨(Nat.le_of_ble_eq_true rfl), (Nat.le_of_ble_eq_true rfl)⟩, rfl, rfl⟩ rfl (kw_d (sBeg 3 2 σ) hn) (cls_d hd) dX6_doBake_14) (fun r u H locs hp hw => ?_)
  obtain ⟨h8, h9⟩ := hp
  have h8 := h8.symm
  have h9 := h9.symm
  subst h8
  subst h9
  exact ret_z (pB0 i (ht - 30) (sBeg 3 2 σ)) cx hw b01_nar ⟨rfl, rfl⟩ dX6_doBake_17 (Nat.le_of_ble_eq_true rfl) (Nat.le_of_ble_eq_true rfl)
set_option maxHeartbeats 4000000 in
set_option maxRecDepth 100000 in
theorem c_X9_doBake (l : Launch) (D : va_G) (G : Nat → Nat) (Q : Nat → ClassId) (σ : St) (i : Nat) (hn : i < s_n σ) (hd : s_k σ i < 8) (ht : Int32) : MI l yX9_doBake cX9_doBake 2 .boolean ({ frames := 2, cells := 0, slots := 0, locals := 43 }) D cls (tyl Q) [.ref (s_a σ i), .int ht] (kw G Q) (kw G Q σ) (fun r u => r = b01 (20 ≤ s_F (pB3 i ht σ) 7 i ∧ s_F (pB3 i ht σ) 7 i ≤ 60) ∧ u = pB3 i ht σ) 0 0 := by
  refine MI_of (by decide) (Nat.le_of_ble_eq_true rfl) ?_
  intro p e s m args below meth c A ls cx hw hl
  have hl : lv_has ls 2 [(0, .ref (s_a σ i)), (1, .int ht)] := hl
  refine lv_aload_n cx.x cx.b dX9_doBake_0 rfl (lv_at hl 0 rfl) ?_
  refine gt_f (v := .ref (G 1)) cx hw (13 + i) (kw_d σ hn) (cls_d hd) (inD_all _ hd) 0 (by decide) tw_127 ⟨rfl, rfl, Or.inr tw_128⟩ rfl dX9_doBake_1 ?_
  refine lv_iconst (v := 3) cx.x cx.b dX9_doBake_4 (by decide) ?_
  refine lv_iconst (v := 3) cx.x cx.b dX9_doBake_5 (by decide) ?_
  refine cgo_v cx hw (rV_v (q0 := 1) (n := 2) (As := [.int 3, .int 3]) (rest := []) cx hw (c_X0_begin l D G Q σ 3 3) (gd_V tw_305 tw_306 tw_307 tw_2 tw_308) rfl ⟨by decide +kernel, rfl, hl.1, (Nat.le_of_ble_eq_true rfl), ⟨(Nat.le_of_ble_eq_true rfl), (Nat.le_of_ble_eq_true rfl)⟩, ⟨(Nat.le_of_ble_eq_true rfl), (Nat.le_of_ble_eq_true rfl)⟩, rfl, rfl⟩ rfl (kw_b σ) rfl dX9_doBake_6) (fun u H locs hp hw => ?_)
  have hp := hp.symm
  subst hp
  refine lv_aload_n cx.x cx.b dX9_doBake_9 rfl (lv_at hl 0 rfl) ?_
  refine lv_iload_n cx.x cx.b dX9_doBake_10 rfl (lv_at hl 1 rfl) ?_
  refine cgo_i cx hw (rSU_i (x := ⟨"BakeHouse$Leavened", "doBake", "(I)Z"⟩) (n := 1) (As := [.int ht]) (rest := []) cx hw (c_X2_doBake l D G Q (sBeg 3 3 σ) i hn hd ht) ⟨rfl, tw_342, tw_343, tw_202, tw_336, tw_5, tw_361, by decide, (sb_up_of (cx.ts _ tw_172) (cx.ts _ tw_273) (va_Nw.use rfl (cx.ev.2.2.2.2.1 _ (by decide +kernel))))⟩ ⟨by decide +kernel, rfl, hl.1, (Nat.le_of_ble_eq_true rfl), ⟨(Nat.le_of_ble_eq_true rfl), (Nat.le_of_ble_eq_true rfl)⟩, ⟨(Nat.le_of_ble_eq_true rfl), (Nat.le_of_ble_eq_true rfl)⟩, rfl, rfl⟩ rfl (kw_d (sBeg 3 3 σ) hn) (cls_d hd) dX9_doBake_11) (fun r u H locs hp hw => ?_)
  obtain ⟨h8, h9⟩ := hp
  have h8 := h8.symm
  have h9 := h9.symm
  subst h8
  subst h9
  refine lv_if_eq (tgt := 30) cx.x cx.b dX9_doBake_14 (by decide) (fun hb14 => ?_) (fun hb14 => ?_)
  · refine lv_iconst (v := 0) cx.x cx.b dX9_doBake_30 (by decide) ?_
    exact ret_z (pB0 i ht (sBeg 3 3 σ)) cx hw rfl ⟨b01_0 (fun h => b01_eq0.mp hb14 h.1), rfl⟩ dX9_doBake_31 (Nat.le_of_ble_eq_true rfl) (Nat.le_of_ble_eq_true rfl)
  · refine lv_aload_n cx.x cx.b dX9_doBake_17 rfl (lv_at hl 0 rfl) ?_
    refine gt_f (v := .int (s_F (pB0 i ht (sBeg 3 3 σ)) 7 i)) cx hw (13 + i) (kw_d (pB0 i ht (sBeg 3 3 σ)) hn) (cls_d hd) (inD_all _ hd) 7 (by decide) tw_151 ⟨rfl, rfl, Or.inr tw_152⟩ rfl dX9_doBake_18 ?_
    refine lv_bipush (v := 60) cx.x cx.b dX9_doBake_21 (by decide) ?_
    refine lv_icmp_gt (tgt := 30) cx.x cx.b dX9_doBake_23 (by decide) (fun hb23 => ?_) (fun hb23 => ?_)
    · refine lv_iconst (v := 0) cx.x cx.b dX9_doBake_30 (by decide) ?_
      exact ret_z (pB0 i ht (sBeg 3 3 σ)) cx hw rfl ⟨b01_0 (fun h => Int32.not_le.mpr hb23 h.2), rfl⟩ dX9_doBake_31 (Nat.le_of_ble_eq_true rfl) (Nat.le_of_ble_eq_true rfl)
    · refine lv_iconst (v := 1) cx.x cx.b dX9_doBake_26 (by decide) ?_
      refine lv_goto (tgt := 31) cx.x cx.b dX9_doBake_27 (by decide) ?_
      exact ret_z (pB0 i ht (sBeg 3 3 σ)) cx hw rfl ⟨b01_1 ⟨Decidable.not_not.mp (fun h => hb14 (b01_eq0.mpr h)), Int32.not_lt.mp hb23⟩, rfl⟩ dX9_doBake_31 (Nat.le_of_ble_eq_true rfl) (Nat.le_of_ble_eq_true rfl)
set_option maxHeartbeats 4000000 in
set_option maxRecDepth 100000 in
theorem c_X8_doBake (l : Launch) (D : va_G) (G : Nat → Nat) (Q : Nat → ClassId) (σ : St) (i : Nat) (hn : i < s_n σ) (hd : s_k σ i < 8) (ht : Int32) : MI l yX8_doBake cX8_doBake 3 .boolean ({ frames := 3, cells := 0, slots := 0, locals := 64 }) D cls (tyl Q) [.ref (s_a σ i), .int ht] (kw G Q) (kw G Q σ) (fun r u => r = b01 (20 ≤ s_F (pB4 i ht σ) 7 i ∨ 5 < s_F (pB4 i ht σ) 6 i) ∧ u = pB4 i ht σ) 0 0 := by
  refine MI_of (by decide) (Nat.le_of_ble_eq_true rfl) ?_
  intro p e s m args below meth c A ls cx hw hl
  have hl : lv_has ls 3 [(0, .ref (s_a σ i)), (1, .int ht)] := hl
  refine lv_aload_n cx.x cx.b dX8_doBake_0 rfl (lv_at hl 0 rfl) ?_
  refine gt_f (v := .ref (G 1)) cx hw (13 + i) (kw_d σ hn) (cls_d hd) (inD_all _ hd) 0 (by decide) tw_123 ⟨rfl, rfl, Or.inr tw_124⟩ rfl dX8_doBake_1 ?_
  refine lv_iconst (v := 3) cx.x cx.b dX8_doBake_4 (by decide) ?_
  refine lv_iconst (v := 4) cx.x cx.b dX8_doBake_5 (by decide) ?_
  refine cgo_v cx hw (rV_v (q0 := 1) (n := 2) (As := [.int 3, .int 4]) (rest := []) cx hw (c_X0_begin l D G Q σ 3 4) (gd_V tw_320 tw_306 tw_307 tw_2 tw_308) rfl ⟨by decide +kernel, rfl, hl.1, (Nat.le_of_ble_eq_true rfl), ⟨(Nat.le_of_ble_eq_true rfl), (Nat.le_of_ble_eq_true rfl)⟩, ⟨(Nat.le_of_ble_eq_true rfl), (Nat.le_of_ble_eq_true rfl)⟩, rfl, rfl⟩ rfl (kw_b σ) rfl dX8_doBake_6) (fun u H locs hp hw => ?_)
  have hp := hp.symm
  subst hp
  refine lv_aload_n cx.x cx.b dX8_doBake_9 rfl (lv_at hl 0 rfl) ?_
  refine lv_iload_n cx.x cx.b dX8_doBake_10 rfl (lv_at hl 1 rfl) ?_
  refine cgo_i cx hw (rSU_i (x := ⟨"BakeHouse$Rye", "doBake", "(I)Z"⟩) (n := 1) (As := [.int ht]) (rest := []) cx hw (c_X6_doBake l D G Q (sBeg 3 4 σ) i hn hd ht) ⟨rfl, tw_353, tw_957, tw_217, tw_354, tw_7, tw_355, by decide, sb_up_rf⟩ ⟨by decide +kernel, rfl, hl.1, (Nat.le_of_ble_eq_true rfl), ⟨(Nat.le_of_ble_eq_true rfl), (Nat.le_of_ble_eq_true rfl)⟩, ⟨(Nat.le_of_ble_eq_true rfl), (Nat.le_of_ble_eq_true rfl)⟩, rfl, rfl⟩ rfl (kw_d (sBeg 3 4 σ) hn) (cls_d hd) dX8_doBake_11) (fun r u H locs hp hw => ?_)
  obtain ⟨h8, h9⟩ := hp
  have h8 := h8.symm
  have h9 := h9.symm
  subst h8
  subst h9
  refine lv_istore_n (lv' := [(2, .int (b01 (20 ≤ s_F (pB2 i ht (sBeg 3 4 σ)) 7 i))), (0, .ref (s_a σ i)), (1, .int ht)]) cx.x cx.b dX8_doBake_14 rfl hl (by decide) rfl (fun ls hl => ?_)
  refine lv_iload_n cx.x cx.b dX8_doBake_15 rfl (lv_at hl 0 rfl) ?_
  refine lv_if_ne (tgt := 27) cx.x cx.b dX8_doBake_16 (by decide) (fun hb16 => ?_) (fun hb16 => ?_)
  · refine lv_iconst (v := 1) cx.x cx.b dX8_doBake_27 (by decide) ?_
    refine lv_goto (tgt := 32) cx.x cx.b dX8_doBake_28 (by decide) ?_
    exact ret_z (pB2 i ht (sBeg 3 4 σ)) cx hw rfl ⟨b01_1 (Or.inl (Decidable.not_not.mp (fun h => hb16 (b01_eq0.mpr h)))), rfl⟩ dX8_doBake_32 (Nat.le_of_ble_eq_true rfl) (Nat.le_of_ble_eq_true rfl)
  · refine lv_aload_n cx.x cx.b dX8_doBake_19 rfl (lv_at hl 1 rfl) ?_
    refine gt_f (v := .int (s_F σ 6 i)) cx hw (13 + i) (kw_d (pB2 i ht (sBeg 3 4 σ)) hn) (cls_d hd) (inD_all _ hd) 6 (by decide) tw_145 ⟨rfl, rfl, Or.inr tw_146⟩ rfl dX8_doBake_20 ?_
    refine lv_iconst (v := 5) cx.x cx.b dX8_doBake_23 (by decide) ?_
    refine lv_icmp_le (tgt := 31) cx.x cx.b dX8_doBake_24 (by decide) (fun hb24 => ?_) (fun hb24 => ?_)
    · refine lv_iconst (v := 0) cx.x cx.b dX8_doBake_31 (by decide) ?_
      exact ret_z (pB2 i ht (sBeg 3 4 σ)) cx hw rfl ⟨b01_0 (fun h => h.elim (b01_eq0.mp hb16) (Int32.not_lt.mpr hb24)), rfl⟩ dX8_doBake_32 (Nat.le_of_ble_eq_true rfl) (Nat.le_of_ble_eq_true rfl)
    · refine lv_iconst (v := 1) cx.x cx.b dX8_doBake_27 (by decide) ?_
      refine lv_goto (tgt := 32) cx.x cx.b dX8_doBake_28 (by decide) ?_
      exact ret_z (pB2 i ht (sBeg 3 4 σ)) cx hw rfl ⟨b01_1 (Or.inr (Int32.not_le.mp hb24)), rfl⟩ dX8_doBake_32 (Nat.le_of_ble_eq_true rfl) (Nat.le_of_ble_eq_true rfl)
set_option maxHeartbeats 4000000 in
set_option maxRecDepth 100000 in
theorem c_X3_doBake (l : Launch) (D : va_G) (G : Nat → Nat) (Q : Nat → ClassId) (σ : St) (i : Nat) (hn : i < s_n σ) (hd : s_k σ i < 8) (ht : Int32) : MI l yX3_doBake cX3_doBake 2 .boolean ({ frames := 2, cells := 0, slots := 0, locals := 43 }) D cls (tyl Q) [.ref (s_a σ i), .int ht] (kw G Q) (kw G Q σ) (fun r u => r = b01 (20 ≤ s_F (pB6 i ht σ) 7 i) ∧ u = pB6 i ht σ) 0 0 := by
  refine MI_of (by decide) (Nat.le_of_ble_eq_true rfl) ?_
  intro p e s m args below meth c A ls cx hw hl
  have hl : lv_has ls 2 [(0, .ref (s_a σ i)), (1, .int ht)] := hl
  refine lv_aload_n cx.x cx.b dX3_doBake_0 rfl (lv_at hl 0 rfl) ?_
  refine gt_f (v := .ref (G 1)) cx hw (13 + i) (kw_d σ hn) (cls_d hd) (inD_all _ hd) 0 (by decide) tw_129 ⟨rfl, rfl, Or.inr tw_130⟩ rfl dX3_doBake_1 ?_
  refine lv_iconst (v := 3) cx.x cx.b dX3_doBake_4 (by decide) ?_
  refine lv_bipush (v := 6) cx.x cx.b dX3_doBake_5 (by decide) ?_
  refine cgo_v cx hw (rV_v (q0 := 1) (n := 2) (As := [.int 3, .int 6]) (rest := []) cx hw (c_X0_begin l D G Q σ 3 6) (gd_V tw_315 tw_306 tw_307 tw_2 tw_308) rfl ⟨by decide +kernel, rfl, hl.1, (Nat.le_of_ble_eq_true rfl), ⟨(Nat.le_of_ble_eq_true rfl), (Nat.le_of_ble_eq_true rfl)⟩, ⟨(Nat.le_of_ble_eq_true rfl), (Nat.le_of_ble_eq_true rfl)⟩, rfl, rfl⟩ rfl (kw_b σ) rfl dX3_doBake_7) (fun u H locs hp hw => ?_)
  have hp := hp.symm
  subst hp
  refine lv_aload_n cx.x cx.b dX3_doBake_10 rfl (lv_at hl 0 rfl) ?_
  refine lv_iconst (v := 2) cx.x cx.b dX3_doBake_11 (by decide) ?_
  refine lv_iload_n cx.x cx.b dX3_doBake_12 rfl (lv_at hl 1 rfl) ?_
  refine lv_imul cx.x cx.b dX3_doBake_13 ?_
  refine cgo_i cx hw (rSU_i (x := ⟨"BakeHouse$Dough", "doBake", "(I)Z"⟩) (n := 1) (As := [.int (2 * ht)]) (rest := []) cx hw (c_X2_doBake l D G Q (sBeg 3 6 σ) i hn hd (2 * ht)) ⟨rfl, tw_348, tw_338, tw_247, tw_336, tw_5, tw_361, by decide, sb_up_rf⟩ ⟨by decide +kernel, rfl, hl.1, (Nat.le_of_ble_eq_true rfl), ⟨(Nat.le_of_ble_eq_true rfl), (Nat.le_of_ble_eq_true rfl)⟩, ⟨(Nat.le_of_ble_eq_true rfl), (Nat.le_of_ble_eq_true rfl)⟩, rfl, rfl⟩ rfl (kw_d (sBeg 3 6 σ) hn) (cls_d hd) dX3_doBake_14) (fun r u H locs hp hw => ?_)
  obtain ⟨h8, h9⟩ := hp
  have h8 := h8.symm
  have h9 := h9.symm
  subst h8
  subst h9
  exact ret_z (pB0 i (2 * ht) (sBeg 3 6 σ)) cx hw b01_nar ⟨rfl, rfl⟩ dX3_doBake_17 (Nat.le_of_ble_eq_true rfl) (Nat.le_of_ble_eq_true rfl)
set_option maxHeartbeats 4000000 in
set_option maxRecDepth 100000 in
theorem c_X2_askWorth (l : Launch) (D : va_G) (G : Nat → Nat) (Q : Nat → ClassId) (σ : St) (i : Nat) (hn : i < s_n σ) (hd : s_k σ i < 8) : MI l yX2_askWorth cX2_askWorth 1 .int ({ frames := 1, cells := 0, slots := 0, locals := 22 }) D cls (tyl Q) [.ref (s_a σ i)] (kw G Q) (kw G Q σ) (fun r u => r = vW0 i σ ∧ u = sBeg 4 0 σ) 0 0 := by
  refine MI_of (by decide) (Nat.le_of_ble_eq_true rfl) ?_
  intro p e s m args below meth c A ls cx hw hl
  have hl : lv_has ls 1 [(0, .ref (s_a σ i))] := hl
  refine lv_aload_n cx.x cx.b dX2_askWorth_0 rfl (lv_at hl 0 rfl) ?_
  refine gt_f (v := .ref (G 1)) cx hw (13 + i) (kw_d σ hn) (cls_d hd) (inD_all _ hd) 0 (by decide) tw_118 ⟨rfl, rfl, Or.inl rfl⟩ rfl dX2_askWorth_1 ?_
  refine lv_iconst (v := 4) cx.x cx.b dX2_askWorth_4 (by decide) ?_
  refine lv_iconst (v := 0) cx.x cx.b dX2_askWorth_5 (by decide) ?_
  refine cgo_v cx hw (rV_v (q0 := 1) (n := 2) (As := [.int 4, .int 0]) (rest := []) cx hw (c_X0_begin l D G Q σ 4 0) (gd_V tw_330 tw_306 tw_307 tw_2 tw_308) rfl ⟨by decide +kernel, rfl, hl.1, (Nat.le_of_ble_eq_true rfl), ⟨(Nat.le_of_ble_eq_true rfl), (Nat.le_of_ble_eq_true rfl)⟩, ⟨(Nat.le_of_ble_eq_true rfl), (Nat.le_of_ble_eq_true rfl)⟩, rfl, rfl⟩ rfl (kw_b σ) rfl dX2_askWorth_6) (fun u H locs hp hw => ?_)
  have hp := hp.symm
  subst hp
  refine lv_aload_n cx.x cx.b dX2_askWorth_9 rfl (lv_at hl 0 rfl) ?_
  refine gt_f (v := .int (s_F σ 3 i)) cx hw (13 + i) (kw_d (sBeg 4 0 σ) hn) (cls_d hd) (inD_all _ hd) 3 (by decide) tw_134 ⟨rfl, rfl, Or.inl rfl⟩ rfl dX2_askWorth_10 ?_
  refine lv_bipush (v := 10) cx.x cx.b dX2_askWorth_13 (by decide) ?_
  refine lv_idiv cx.x cx.b dX2_askWorth_15 (by decide) ?_
  refine lv_iconst (v := 2) cx.x cx.b dX2_askWorth_16 (by decide) ?_
  refine lv_aload_n cx.x cx.b dX2_askWorth_17 rfl (lv_at hl 0 rfl) ?_
  refine gt_f (v := .int (s_F σ 5 i)) cx hw (13 + i) (kw_d (sBeg 4 0 σ) hn) (cls_d hd) (inD_all _ hd) 5 (by decide) tw_140 ⟨rfl, rfl, Or.inl rfl⟩ rfl dX2_askWorth_18 ?_
  refine lv_imul cx.x cx.b dX2_askWorth_21 ?_
  refine lv_iadd cx.x cx.b dX2_askWorth_22 ?_
  exact ret_i (sBeg 4 0 σ) cx hw ⟨rfl, rfl⟩ dX2_askWorth_23 (Nat.le_of_ble_eq_true rfl) (Nat.le_of_ble_eq_true rfl)
set_option maxHeartbeats 4000000 in
set_option maxRecDepth 100000 in
theorem c_X8_askWorth (l : Launch) (D : va_G) (G : Nat → Nat) (Q : Nat → ClassId) (σ : St) (i : Nat) (hn : i < s_n σ) (hd : s_k σ i < 8) : MI l yX8_askWorth cX8_askWorth 1 .int ({ frames := 2, cells := 0, slots := 0, locals := 42 }) D cls (tyl Q) [.ref (s_a σ i)] (kw G Q) (kw G Q σ) (fun r u => r = vW0 i σ + s_F σ 6 i ∧ u = pW4 σ) 0 0 := by
  refine MI_of (by decide) (Nat.le_of_ble_eq_true rfl) ?_
  intro p e s m args below meth c A ls cx hw hl
  have hl : lv_has ls 1 [(0, .ref (s_a σ i))] := hl
  refine lv_aload_n cx.x cx.b dX8_askWorth_0 rfl (lv_at hl 0 rfl) ?_
  refine gt_f (v := .ref (G 1)) cx hw (13 + i) (kw_d σ hn) (cls_d hd) (inD_all _ hd) 0 (by decide) tw_123 ⟨rfl, rfl, Or.inr tw_124⟩ rfl dX8_askWorth_1 ?_
  refine lv_iconst (v := 4) cx.x cx.b dX8_askWorth_4 (by decide) ?_
  refine lv_iconst (v := 4) cx.x cx.b dX8_askWorth_5 (by decide) ?_
  refine cgo_v cx hw (rV_v (q0 := 1) (n := 2) (As := [.int 4, .int 4]) (rest := []) cx hw (c_X0_begin l D G Q σ 4 4) (gd_V tw_320 tw_306 tw_307 tw_2 tw_308) rfl ⟨by decide +kernel, rfl, hl.1, (Nat.le_of_ble_eq_true rfl), ⟨(Nat.le_of_ble_eq_true rfl), (Nat.le_of_ble_eq_true rfl)⟩, ⟨(Nat.le_of_ble_eq_true rfl), (Nat.le_of_ble_eq_true rfl)⟩, rfl, rfl⟩ rfl (kw_b σ) rfl dX8_askWorth_6) (fun u H locs hp hw => ?_)
  have hp := hp.symm
  subst hp
  refine lv_aload_n cx.x cx.b dX8_askWorth_9 rfl (lv_at hl 0 rfl) ?_
  refine cgo_i cx hw (rSU_i (x := ⟨"BakeHouse$Rye", "askWorth", "()I"⟩) (n := 0) (As := []) (rest := []) cx hw (c_X2_askWorth l D G Q (sBeg 4 4 σ) i hn hd ) ⟨rfl, tw_728, tw_729, tw_217, tw_702, tw_5, tw_733, by decide, (sb_up_of (cx.ts _ tw_187) (cx.ts _ tw_273) (va_Nw.use rfl (cx.ev.2.2.2.2.1 _ (by decide +kernel))))⟩ ⟨by decide +kernel, rfl, hl.1, (Nat.le_of_ble_eq_true rfl), ⟨(Nat.le_of_ble_eq_true rfl), (Nat.le_of_ble_eq_true rfl)⟩, ⟨(Nat.le_of_ble_eq_true rfl), (Nat.le_of_ble_eq_true rfl)⟩, rfl, rfl⟩ rfl (kw_d (sBeg 4 4 σ) hn) (cls_d hd) dX8_askWorth_10) (fun r u H locs hp hw => ?_)
  obtain ⟨h8, h9⟩ := hp
  have h8 := h8.symm
  have h9 := h9.symm
  subst h8
  subst h9
  refine lv_aload_n cx.x cx.b dX8_askWorth_13 rfl (lv_at hl 0 rfl) ?_
  refine gt_f (v := .int (s_F σ 6 i)) cx hw (13 + i) (kw_d (sBeg 4 0 (sBeg 4 4 σ)) hn) (cls_d hd) (inD_all _ hd) 6 (by decide) tw_145 ⟨rfl, rfl, Or.inr tw_146⟩ rfl dX8_askWorth_14 ?_
  refine lv_iadd cx.x cx.b dX8_askWorth_17 ?_
  exact ret_i (sBeg 4 0 (sBeg 4 4 σ)) cx hw ⟨rfl, rfl⟩ dX8_askWorth_18 (Nat.le_of_ble_eq_true rfl) (Nat.le_of_ble_eq_true rfl)
set_option maxHeartbeats 4000000 in
set_option maxRecDepth 100000 in
theorem c_X1_askWorth (l : Launch) (D : va_G) (G : Nat → Nat) (Q : Nat → ClassId) (σ : St) (i : Nat) (hn : i < s_n σ) (hd : s_k σ i < 8) : MI l yX1_askWorth cX1_askWorth 1 .int ({ frames := 2, cells := 0, slots := 0, locals := 42 }) D cls (tyl Q) [.ref (s_a σ i)] (kw G Q) (kw G Q σ) (fun r u => r = 2 * vW0 i σ ∧ u = pW5 σ) 0 0 := by
  refine MI_of (by decide) (Nat.le_of_ble_eq_true rfl) ?_
  intro p e s m args below meth c A ls cx hw hl
  have hl : lv_has ls 1 [(0, .ref (s_a σ i))] := hl
  refine lv_aload_n cx.x cx.b dX1_askWorth_0 rfl (lv_at hl 0 rfl) ?_
  refine gt_f (v := .ref (G 1)) cx hw (13 + i) (kw_d σ hn) (cls_d hd) (inD_all _ hd) 0 (by decide) tw_119 ⟨rfl, rfl, Or.inr tw_120⟩ rfl dX1_askWorth_1 ?_
  refine lv_iconst (v := 4) cx.x cx.b dX1_askWorth_4 (by decide) ?_
  refine lv_iconst (v := 5) cx.x cx.b dX1_askWorth_5 (by decide) ?_
  refine cgo_v cx hw (rV_v (q0 := 1) (n := 2) (As := [.int 4, .int 5]) (rest := []) cx hw (c_X0_begin l D G Q σ 4 5) (gd_V tw_405 tw_306 tw_307 tw_2 tw_308) rfl ⟨by decide +kernel, rfl, hl.1, (Nat.le_of_ble_eq_true rfl), ⟨(Nat.le_of_ble_eq_true rfl), (Nat.le_of_ble_eq_true rfl)⟩, ⟨(Nat.le_of_ble_eq_true rfl), (Nat.le_of_ble_eq_true rfl)⟩, rfl, rfl⟩ rfl (kw_b σ) rfl dX1_askWorth_6) (fun u H locs hp hw => ?_)
  have hp := hp.symm
  subst hp
  refine lv_iconst (v := 2) cx.x cx.b dX1_askWorth_9 (by decide) ?_
  refine lv_aload_n cx.x cx.b dX1_askWorth_10 rfl (lv_at hl 0 rfl) ?_
  refine cgo_i cx hw (rSU_i (x := ⟨"BakeHouse$Sweet", "askWorth", "()I"⟩) (n := 0) (As := []) (rest := [.int 2]) cx hw (c_X2_askWorth l D G Q (sBeg 4 5 σ) i hn hd ) ⟨rfl, tw_708, tw_709, tw_232, tw_702, tw_5, tw_733, by decide, (sb_up_of (cx.ts _ tw_202) (cx.ts _ tw_273) (va_Nw.use rfl (cx.ev.2.2.2.2.1 _ (by decide +kernel))))⟩ ⟨by decide +kernel, rfl, hl.1, (Nat.le_of_ble_eq_true rfl), ⟨(Nat.le_of_ble_eq_true rfl), (Nat.le_of_ble_eq_true rfl)⟩, ⟨(Nat.le_of_ble_eq_true rfl), (Nat.le_of_ble_eq_true rfl)⟩, rfl, rfl⟩ rfl (kw_d (sBeg 4 5 σ) hn) (cls_d hd) dX1_askWorth_11) (fun r u H locs hp hw => ?_)
  obtain ⟨h8, h9⟩ := hp
  have h8 := h8.symm
  have h9 := h9.symm
  subst h8
  subst h9
  refine lv_imul cx.x cx.b dX1_askWorth_14 ?_
  exact ret_i (sBeg 4 0 (sBeg 4 5 σ)) cx hw ⟨rfl, rfl⟩ dX1_askWorth_15 (Nat.le_of_ble_eq_true rfl) (Nat.le_of_ble_eq_true rfl)
set_option maxHeartbeats 4000000 in
set_option maxRecDepth 100000 in
theorem c_X3_askWorth (l : Launch) (hl0 : l.stackTraces = false) (D : va_G) (G : Nat → Nat) (Q : Nat → ClassId) (σ : St) (i : Nat) (hn : i < s_n σ) (hd : s_k σ i < 8) : XI l yX3_askWorth cX3_askWorth 1 .int ({ frames := 6, cells := 1, slots := 6, locals := 90 }) D cls (tyl Q) [.ref (s_a σ i)] (kw G Q) (kw G Q σ) (fun r u => ¬ s_F σ 7 i = 0 ∧ r = 1000 / s_F σ 7 i ∧ u = sBeg 4 6 σ) (fun E u => s_F σ 7 i = 0 ∧ E = "java/lang/ArithmeticException" ∧ u = pW6f σ) 1 6 := by
  refine XI_of (by decide) (Nat.le_of_ble_eq_true rfl) ?_
  intro p e s m args below meth c A ls htab cx hw hl
  have hl : lv_has ls 1 [(0, .ref (s_a σ i))] := hl
  refine lv_aload_n cx.x cx.b dX3_askWorth_0 rfl (lv_at hl 0 rfl) ?_
  refine gt_f (v := .ref (G 1)) cx hw (13 + i) (kw_d σ hn) (cls_d hd) (inD_all _ hd) 0 (by decide) tw_129 ⟨rfl, rfl, Or.inr tw_130⟩ rfl dX3_askWorth_1 ?_
  refine lv_iconst (v := 4) cx.x cx.b dX3_askWorth_4 (by decide) ?_
  refine lv_bipush (v := 6) cx.x cx.b dX3_askWorth_5 (by decide) ?_
  refine cgo_v cx hw (rV_v (q0 := 1) (n := 2) (As := [.int 4, .int 6]) (rest := []) cx hw (c_X0_begin l D G Q σ 4 6) (gd_V tw_315 tw_306 tw_307 tw_2 tw_308) rfl ⟨by decide +kernel, rfl, hl.1, (Nat.le_of_ble_eq_true rfl), ⟨(Nat.le_of_ble_eq_true rfl), (Nat.le_of_ble_eq_true rfl)⟩, ⟨(Nat.le_of_ble_eq_true rfl), (Nat.le_of_ble_eq_true rfl)⟩, rfl, rfl⟩ rfl (kw_b σ) rfl dX3_askWorth_7) (fun u H locs hp hw => ?_)
  have hp := hp.symm
  subst hp
  refine lv_aload_n cx.x cx.b dX3_askWorth_10 rfl (lv_at hl 0 rfl) ?_
  refine gt_f (v := .int (s_F σ 7 i)) cx hw (13 + i) (kw_d (sBeg 4 6 σ) hn) (cls_d hd) (inD_all _ hd) 7 (by decide) tw_153 ⟨rfl, rfl, Or.inr tw_154⟩ rfl dX3_askWorth_11 ?_
  refine lv_if_ne (tgt := 40) cx.x cx.b dX3_askWorth_14 (by decide) (fun hb14 => ?_) (fun hb14 => ?_)
  · refine lv_sipush (v := 1000) cx.x cx.b dX3_askWorth_40 (by decide) ?_
    refine lv_aload_n cx.x cx.b dX3_askWorth_43 rfl (lv_at hl 0 rfl) ?_
    refine gt_f (v := .int (s_F σ 7 i)) cx hw (13 + i) (kw_d (sBeg 4 6 σ) hn) (cls_d hd) (inD_all _ hd) 7 (by decide) tw_153 ⟨rfl, rfl, Or.inr tw_154⟩ rfl dX3_askWorth_44 ?_
    refine lv_idiv cx.x cx.b dX3_askWorth_47 hb14 ?_
    exact xret_i (sBeg 4 6 σ) cx hw ⟨hb14, rfl, rfl⟩ dX3_askWorth_48 (Nat.le_of_ble_eq_true rfl) (Nat.le_of_ble_eq_true rfl)
  · refine lv_aload_n cx.x cx.b dX3_askWorth_17 rfl (lv_at hl 0 rfl) ?_
    refine gt_f (v := .ref (G 1)) cx hw (13 + i) (kw_d (sBeg 4 6 σ) hn) (cls_d hd) (inD_all _ hd) 0 (by decide) tw_129 ⟨rfl, rfl, Or.inr tw_130⟩ rfl dX3_askWorth_18 ?_
    refine lv_dup cx.x cx.b dX3_askWorth_21 rfl ?_
    refine gt_f (v := .int (s_c σ 6)) cx hw 1 (kw_b (sBeg 4 6 σ)) rfl inX0 6 (by decide) tw_50 ⟨rfl, rfl, Or.inl rfl⟩ rfl dX3_askWorth_22 ?_
    refine lv_iconst (v := 1) cx.x cx.b dX3_askWorth_25 (by decide) ?_
    refine lv_iadd cx.x cx.b dX3_askWorth_26 ?_
    refine pt_f cx hw 1 (kw_b (sBeg 4 6 σ)) rfl inX0 tyX0 tyX0_ok nmX0 6 (by decide) tw_50 ⟨rfl, rfl, Or.inl rfl⟩ rfl rfl rfl rfl (Nat.le_of_ble_eq_true rfl) dX3_askWorth_27 (w1 := kw G Q (sC 6 ((s_c σ 6) + 1) (sBeg 4 6 σ))) (kw_sC (by decide)) (fun H locs hw => ?_)
    exact thr_i (sC 6 ((s_c σ 6) + 1) (sBeg 4 6 σ)) hl0 htab cx hw (ok_ARI cx) hl.1 dX3_askWorth_30 dX3_askWorth_33 dX3_askWorth_34 dX3_askWorth_36 dX3_askWorth_39 ⟨(Nat.le_of_ble_eq_true rfl), (Nat.le_of_ble_eq_true rfl), (Nat.le_of_ble_eq_true rfl), (Nat.le_of_ble_eq_true rfl)⟩ ⟨hb14, rfl, rfl⟩ (Nat.le_of_ble_eq_true rfl) (Nat.le_of_ble_eq_true rfl)
set_option maxHeartbeats 4000000 in
set_option maxRecDepth 100000 in
theorem c_X5_askWorth (l : Launch) (D : va_G) (G : Nat → Nat) (Q : Nat → ClassId) (σ : St) (i : Nat) (hn : i < s_n σ) (hd : s_k σ i < 8) (h7 : s_k σ i = 7) : MI l yX5_askWorth cX5_askWorth 2 .int ({ frames := 3, cells := 0, slots := 0, locals := 62 }) D cls (tyl Q) [.ref (s_a σ i)] (kw G Q) (kw G Q σ) (fun r u => r = vW0 i σ + s_F σ 6 i + (if 20 ≤ s_F σ 7 i then 5 else 0) ∧ u = pW7 σ) 0 0 := by
  refine MI_of (by decide) (Nat.le_of_ble_eq_true rfl) ?_
  intro p e s m args below meth c A ls cx hw hl
  have hl : lv_has ls 2 [(0, .ref (s_a σ i))] := hl
  refine lv_aload_n cx.x cx.b dX5_askWorth_0 rfl (lv_at hl 0 rfl) ?_
  refine gt_f (v := .ref (G 1)) cx hw (13 + i) (kw_d σ hn) (cls_d hd) (inD_all _ hd) 0 (by decide) tw_121 ⟨rfl, rfl, Or.inr tw_122⟩ rfl dX5_askWorth_1 ?_
  refine lv_iconst (v := 4) cx.x cx.b dX5_askWorth_4 (by decide) ?_
  refine lv_bipush (v := 7) cx.x cx.b dX5_askWorth_5 (by decide) ?_
  refine cgo_v cx hw (rV_v (q0 := 1) (n := 2) (As := [.int 4, .int 7]) (rest := []) cx hw (c_X0_begin l D G Q σ 4 7) (gd_V tw_494 tw_306 tw_307 tw_2 tw_308) rfl ⟨by decide +kernel, rfl, hl.1, (Nat.le_of_ble_eq_true rfl), ⟨(Nat.le_of_ble_eq_true rfl), (Nat.le_of_ble_eq_true rfl)⟩, ⟨(Nat.le_of_ble_eq_true rfl), (Nat.le_of_ble_eq_true rfl)⟩, rfl, rfl⟩ rfl (kw_b σ) rfl dX5_askWorth_7) (fun u H locs hp hw => ?_)
  have hp := hp.symm
  subst hp
  refine lv_aload_n cx.x cx.b dX5_askWorth_10 rfl (lv_at hl 0 rfl) ?_
  refine cgo_i cx hw (rU_i (x := ⟨"BakeHouse$Levain", "isDoneByCrust", "()Z"⟩) (n := 0) (As := []) (rest := []) cx hw (c_X2_isDoneByCrust l D G Q (sBeg 4 7 σ) i hn hd) (cwu_idcL h7) ⟨by decide +kernel, rfl, hl.1, (Nat.le_of_ble_eq_true rfl), ⟨(Nat.le_of_ble_eq_true rfl), (Nat.le_of_ble_eq_true rfl)⟩, ⟨(Nat.le_of_ble_eq_true rfl), (Nat.le_of_ble_eq_true rfl)⟩, rfl, rfl⟩ rfl (kw_d (sBeg 4 7 σ) hn) (cls_d hd) dX5_askWorth_11) (fun r u H locs hp hw => ?_)
  obtain ⟨h8, h9⟩ := hp
  have h8 := h8.symm
  have h9 := h9.symm
  subst h8
  subst h9
  refine lv_if_eq (tgt := 21) cx.x cx.b dX5_askWorth_14 (by decide) (fun hb14 => ?_) (fun hb14 => ?_)
  · refine lv_iconst (v := 0) cx.x cx.b dX5_askWorth_21 (by decide) ?_
    refine lv_istore_n (lv' := [(1, .int 0), (0, .ref (s_a σ i))]) cx.x cx.b dX5_askWorth_22 rfl hl (by decide) rfl (fun ls hl => ?_)
    refine lv_aload_n cx.x cx.b dX5_askWorth_23 rfl (lv_at hl 1 rfl) ?_
    refine cgo_i cx hw (rSU_i (x := ⟨"BakeHouse$Sour", "askWorth", "()I"⟩) (n := 0) (As := []) (rest := []) cx hw (c_X8_askWorth l D G Q (sBeg 4 7 σ) i hn hd ) ⟨rfl, tw_725, tw_961, tw_262, tw_726, tw_9, tw_727, by decide, sb_up_rf⟩ ⟨by decide +kernel, rfl, hl.1, (Nat.le_of_ble_eq_true rfl), ⟨(Nat.le_of_ble_eq_true rfl), (Nat.le_of_ble_eq_true rfl)⟩, ⟨(Nat.le_of_ble_eq_true rfl), (Nat.le_of_ble_eq_true rfl)⟩, rfl, rfl⟩ rfl (kw_d (sBeg 4 7 σ) hn) (cls_d hd) dX5_askWorth_24) (fun r u H locs hp hw => ?_)
    obtain ⟨h8, h9⟩ := hp
    have h8 := h8.symm
    have h9 := h9.symm
    subst h8
    subst h9
    refine lv_iload_n cx.x cx.b dX5_askWorth_27 rfl (lv_at hl 0 rfl) ?_
    refine lv_iadd cx.x cx.b dX5_askWorth_28 ?_
    exact ret_i (pW4 (sBeg 4 7 σ)) cx hw ⟨by rw [if_neg (show ¬ 20 ≤ s_F σ 7 i from b01_eq0.mp hb14)]; rfl, rfl⟩ dX5_askWorth_29 (Nat.le_of_ble_eq_true rfl) (Nat.le_of_ble_eq_true rfl)
  · refine lv_iconst (v := 5) cx.x cx.b dX5_askWorth_17 (by decide) ?_
    refine lv_goto (tgt := 22) cx.x cx.b dX5_askWorth_18 (by decide) ?_
    refine lv_istore_n (lv' := [(1, .int 5), (0, .ref (s_a σ i))]) cx.x cx.b dX5_askWorth_22 rfl hl (by decide) rfl (fun ls hl => ?_)
    refine lv_aload_n cx.x cx.b dX5_askWorth_23 rfl (lv_at hl 1 rfl) ?_
    refine cgo_i cx hw (rSU_i (x := ⟨"BakeHouse$Sour", "askWorth", "()I"⟩) (n := 0) (As := []) (rest := []) cx hw (c_X8_askWorth l D G Q (sBeg 4 7 σ) i hn hd ) ⟨rfl, tw_725, tw_961, tw_262, tw_726, tw_9, tw_727, by decide, sb_up_rf⟩ ⟨by decide +kernel, rfl, hl.1, (Nat.le_of_ble_eq_true rfl), ⟨(Nat.le_of_ble_eq_true rfl), (Nat.le_of_ble_eq_true rfl)⟩, ⟨(Nat.le_of_ble_eq_true rfl), (Nat.le_of_ble_eq_true rfl)⟩, rfl, rfl⟩ rfl (kw_d (sBeg 4 7 σ) hn) (cls_d hd) dX5_askWorth_24) (fun r u H locs hp hw => ?_)
    obtain ⟨h8, h9⟩ := hp
    have h8 := h8.symm
    have h9 := h9.symm
    subst h8
    subst h9
    refine lv_iload_n cx.x cx.b dX5_askWorth_27 rfl (lv_at hl 0 rfl) ?_
    refine lv_iadd cx.x cx.b dX5_askWorth_28 ?_
    exact ret_i (pW4 (sBeg 4 7 σ)) cx hw ⟨by rw [if_pos (show 20 ≤ s_F σ 7 i from Decidable.not_not.mp (fun h => hb14 (b01_eq0.mpr h)))]; rfl, rfl⟩ dX5_askWorth_29 (Nat.le_of_ble_eq_true rfl) (Nat.le_of_ble_eq_true rfl)
end
section
section Loop21
variable {p : Program} {l : Launch} {e : Env} {R : Room} {s : State} {m : MethodId} {args : Array Value} {below : List Frame} {meth : Method} {c : Code} {Q : State → Prop} {head : Nat}
/-- a loop that counts up to n; the room of its rounds grows by cs, ss -/
theorem loopN (n : Nat) (cs ss : Nat → Nat) (I : Nat → Heap → List Loc → Array Slot → Prop) {H : Heap} {locs : List Loc} {ls : Array Slot} (h0 : I 0 H locs ls)
    (hx : ∀ H locs ls, I n H locs ls → W p l e R s m args below meth c H locs (cs n) (ss n) Q (F0 m head ls []))
    (hs : ∀ j, j < n → ∀ H locs ls, I j H locs ls → (∀ H locs ls, I (j + 1) H locs ls → W p l e R s m args below meth c H locs (cs (j + 1)) (ss (j + 1)) Q (F0 m head ls [])) → W p l e R s m args below meth c H locs (cs j) (ss j) Q (F0 m head ls [])) :
    W p l e R s m args below meth c H locs (cs 0) (ss 0) Q (F0 m head ls []) := by
  have key : ∀ d j, j + d = n → ∀ H locs ls, I j H locs ls → W p l e R s m args below meth c H locs (cs j) (ss j) Q (F0 m head ls []) := by
    intro d
    induction d with
    | zero => intro j hj H locs ls h; obtain rfl : j = n := by omega
              exact hx H locs ls h
    | succ d ih => intro j hj H locs ls h
                   exact hs j (by omega) H locs ls h (fun H locs ls h => ih (j + 1) (by omega) H locs ls h)
  exact key n 0 (by omega) H locs ls h0
end Loop21
section Wide21
variable {p : Program} {l : Launch} {e : Env} {R : Room} {s : State} {m : MethodId} {args : Array Value} {below : List Frame} {meth : Method} {c : Code} {H : Heap} {locs : List Loc} {cells slots : Nat}
variable {D : va_G} {cl : List vw_C} {w0 : va_W} {pc : Nat} {ls : Array Slot} {rest st0 : List Value} {S : Type} {w : S → va_W} {mc ms mc' ms' : Nat}
theorem RunsI.wide {post post' : Int32 → S → Prop} {px : String → S → Prop} (h : RunsI p l e R s m args below meth c H locs cells slots pc ls st0 rest D cl w w0 post mc ms) (hp : ∀ r u, post r u → post' r u) (h1 : mc ≤ mc') (h2 : ms ≤ ms') : RunsXI p l e R s m args below meth c H locs cells slots pc ls st0 rest D cl w w0 post' px mc' ms' := by
  obtain ⟨a, h⟩ := h
  refine ⟨a, fun T hT X => ?_⟩
  obtain ⟨v, st₀, t, T', L, h0, X', hL, e1, e2, ⟨⟨r, u, hv, hq, hb⟩, hF⟩, st⟩ := h T hT X
  exact Or.inl ⟨v, st₀, t, T', L, h0, stand_widen X' (by omega) (by omega), hL, e1, e2, ⟨⟨r, u, hv, hp r u hq, hb⟩, hF⟩, st⟩
theorem RunsI.wideI {post post' : Int32 → S → Prop} (h : RunsI p l e R s m args below meth c H locs cells slots pc ls st0 rest D cl w w0 post mc ms) (hp : ∀ r u, post r u → post' r u) (h1 : mc ≤ mc') (h2 : ms ≤ ms') : RunsI p l e R s m args below meth c H locs cells slots pc ls st0 rest D cl w w0 post' mc' ms' := by
  obtain ⟨a, h⟩ := h
  refine ⟨a, fun T hT X => ?_⟩
  obtain ⟨v, st₀, t, T', L, h0, X', hL, e1, e2, ⟨⟨r, u, hv, hq, hb⟩, hF⟩, st⟩ := h T hT X
  exact ⟨v, st₀, t, T', L, h0, stand_widen X' (by omega) (by omega), hL, e1, e2, ⟨⟨r, u, hv, hp r u hq, hb⟩, hF⟩, st⟩
theorem RunsV.wideV {post post' : S → Prop} (h : RunsV p l e R s m args below meth c H locs cells slots pc ls st0 rest D cl w w0 post mc ms) (hp : ∀ u, post u → post' u) (h1 : mc ≤ mc') (h2 : ms ≤ ms') : RunsV p l e R s m args below meth c H locs cells slots pc ls st0 rest D cl w w0 post' mc' ms' := by
  obtain ⟨a, h⟩ := h
  refine ⟨a, fun T hT X => ?_⟩
  obtain ⟨v, st₀, t, T', L, h0, X', hL, e1, e2, ⟨⟨u, hv, hq, hb⟩, hF⟩, st⟩ := h T hT X
  exact ⟨v, st₀, t, T', L, h0, stand_widen X' (by omega) (by omega), hL, e1, e2, ⟨⟨u, hv, hp u hq, hb⟩, hF⟩, st⟩
theorem RunsXI.wide {post post' : Int32 → S → Prop} {px px' : String → S → Prop} (h : RunsXI p l e R s m args below meth c H locs cells slots pc ls st0 rest D cl w w0 post px mc ms) (hp : ∀ r u, post r u → post' r u) (hpx : ∀ E u, px E u → px' E u) (h1 : mc ≤ mc') (h2 : ms ≤ ms') : RunsXI p l e R s m args below meth c H locs cells slots pc ls st0 rest D cl w w0 post' px' mc' ms' := by
  obtain ⟨a, h⟩ := h
  refine ⟨a, fun T hT X => ?_⟩
  rcases h T hT X with ⟨v, st₀, t, T', L, h0, X', hL, e1, e2, ⟨⟨r, u, hv, hq, hb⟩, hF⟩, st⟩ | ⟨q, st₀, t, T', L, E, ce, h0, X', hL, e1, e2, ⟨u, hq, ⟨hb0, hb⟩, hF⟩, hce, hcv, hcl, st⟩
  · exact Or.inl ⟨v, st₀, t, T', L, h0, stand_widen X' (by omega) (by omega), hL, e1, e2, ⟨⟨r, u, hv, hp r u hq, hb⟩, hF⟩, st⟩
  · exact Or.inr ⟨q, st₀, t, T', L, E, ce, h0, stand_widen X' (by omega) (by omega), hL, e1, e2, ⟨u, hq, ⟨hpx E u hb0, hb⟩, hF⟩, hce, hcv, hcl, st⟩
theorem RunsXV.wide {post post' : S → Prop} {px px' : String → S → Prop} (h : RunsXV p l e R s m args below meth c H locs cells slots pc ls st0 rest D cl w w0 post px mc ms) (hp : ∀ u, post u → post' u) (hpx : ∀ E u, px E u → px' E u) (h1 : mc ≤ mc') (h2 : ms ≤ ms') : RunsXV p l e R s m args below meth c H locs cells slots pc ls st0 rest D cl w w0 post' px' mc' ms' := by
  obtain ⟨a, h⟩ := h
  refine ⟨a, fun T hT X => ?_⟩
  rcases h T hT X with ⟨v, st₀, t, T', L, h0, X', hL, e1, e2, ⟨⟨u, hv, hq, hb⟩, hF⟩, st⟩ | ⟨q, st₀, t, T', L, E, ce, h0, X', hL, e1, e2, ⟨u, hq, ⟨hb0, hb⟩, hF⟩, hce, hcv, hcl, st⟩
  · exact Or.inl ⟨v, st₀, t, T', L, h0, stand_widen X' (by omega) (by omega), hL, e1, e2, ⟨⟨u, hv, hp u hq, hb⟩, hF⟩, st⟩
  · exact Or.inr ⟨q, st₀, t, T', L, E, ce, h0, stand_widen X' (by omega) (by omega), hL, e1, e2, ⟨u, hq, ⟨hpx E u hb0, hb⟩, hF⟩, hce, hcv, hcl, st⟩
end Wide21
/-- how often a loaf lies in the first j places of shelf k -/
def tO (σ : St) (k : Nat) (lf : Int32) : Nat → Int32
  | 0 => 0
  | j + 1 => if (if hasP (s_z σ k) (nI j) then s_r σ k j else -1) = lf then tO σ k lf j + 1 else tO σ k lf j
def clr (k : Nat) (σ : St) : Nat → St
  | 0 => σ
  | j + 1 => sR k j (-1) (clr k σ j)
theorem row_clamp {j : Nat} (h : j < 8) : (nI j).toNatClampNeg = j := nI_clamp (by omega)
/-- the laying: why it fails, the state -/
def layE (z pl : Int32) (E : String) : Prop := (z = -1 ∧ E = "java/lang/NullPointerException") ∨ (¬ z = -1 ∧ ¬ hasP z pl ∧ E = "java/lang/ArrayIndexOutOfBoundsException")
end
section
set_option maxHeartbeats 4000000 in
set_option maxRecDepth 100000 in
theorem c_X7_bringIn (l : Launch) (D : va_G) (G : Nat → Nat) (Q : Nat → ClassId) (σ : St) (k : Nat) (hk : k < 4) (nn : Int32) : MV l yX7_bringIn cX7_bringIn 3 ({ frames := 0, cells := 0, slots := 0, locals := 0 }) D cls (tyl Q) [.ref (G (5 + k)), .int nn] (kw G Q) (kw G Q σ) (fun u => u = clr k (sZ k nn σ) 8) 0 0 := by
  refine MV_of (by decide) (Nat.le_of_ble_eq_true rfl) ?_
  intro p e s m args below meth c A ls cx hw hl
  have hl : lv_has ls 3 [(0, .ref (G (5 + k))), (1, .int nn)] := hl
  refine lv_aload_n cx.x cx.b dX7_bringIn_0 rfl (lv_at hl 0 rfl) ?_
  refine lv_iload_n cx.x cx.b dX7_bringIn_1 rfl (lv_at hl 1 rfl) ?_
  refine pt_f cx hw (5 + k) (kw_s σ hk) rfl inX7 tyX7 tyX7_ok nmX7 1 (by decide) tw_76 ⟨rfl, rfl, Or.inl rfl⟩ rfl rfl rfl rfl (Nat.le_of_ble_eq_true rfl) dX7_bringIn_2 (w1 := kw G Q (sZ k nn σ)) (kw_sZ hk) (fun H locs hw => ?_)
  refine lv_iconst (v := 0) cx.x cx.b dX7_bringIn_5 (by decide) ?_
  refine lv_istore_n (lv' := [(2, .int 0), (0, .ref (G (5 + k))), (1, .int nn)]) cx.x cx.b dX7_bringIn_6 rfl hl (by decide) rfl (fun ls hl => ?_)
  refine loopN 8 (fun _ => 0) (fun _ => 0) (fun j H locs ls => Wd D cls A s H locs (kw G Q (clr k (sZ k nn σ) j)) ∧ lv_has ls 3 [(2, .int (nI j)), (0, .ref (G (5 + k))), (1, .int nn)]) ⟨hw, hl⟩ (fun H locs ls ⟨hw, hl⟩ => ?_) (fun j hj H locs ls ⟨hw, hl⟩ kk => ?_)
  · refine lv_iload_n cx.x cx.b dX7_bringIn_7 rfl (lv_at hl 0 rfl) ?_
    refine lv_bipush (v := 8) cx.x cx.b dX7_bringIn_8 (by decide) ?_
    refine lv_icmp_ge (tgt := 26) cx.x cx.b dX7_bringIn_10 (by decide) (fun hb10 => ?_) (fun hb10 => absurd (by decide) hb10)
    exact ret_v (clr k (sZ k nn σ) 8) cx hw rfl dX7_bringIn_26 (Nat.le_of_ble_eq_true rfl) (Nat.le_of_ble_eq_true rfl)
  · refine lv_iload_n cx.x cx.b dX7_bringIn_7 rfl (lv_at hl 0 rfl) ?_
    refine lv_bipush (v := 8) cx.x cx.b dX7_bringIn_8 (by decide) ?_
    refine lv_icmp_ge (tgt := 26) cx.x cx.b dX7_bringIn_10 (by decide) (fun hb10 => absurd hb10 (nI_ge hj (by decide))) (fun hb10 => ?_)
    refine lv_aload_n cx.x cx.b dX7_bringIn_13 rfl (lv_at hl 1 rfl) ?_
    refine gt_f (v := .ref (G (9 + k))) cx hw (5 + k) (kw_s (clr k (sZ k nn σ) j) hk) rfl inX7 0 (by decide) tw_75 ⟨rfl, rfl, Or.inl rfl⟩ rfl dX7_bringIn_14 ?_
    refine lv_iload_n cx.x cx.b dX7_bringIn_17 rfl (lv_at hl 0 rfl) ?_
    refine lv_iconst (v := (-1)) cx.x cx.b dX7_bringIn_18 (by decide) ?_
    refine ast_i (f := s_r (clr k (sZ k nn σ) j) k) cx hw (9 + k) 0 (kw_row (clr k (sZ k nn σ) j) hk) rfl j rfl hj (by decide) dX7_bringIn_19 (w1 := kw G Q (sR k j (-1) (clr k (sZ k nn σ) j))) (kw_sR hk) (fun H locs hw => ?_)
    refine lv_iinc (v := ((nI j) + 1)) (lv' := [(2, .int ((nI j) + 1)), (0, .ref (G (5 + k))), (1, .int nn)]) cx.x cx.b dX7_bringIn_20 hl (k := 0) rfl rfl (by decide) rfl (fun ls hl => ?_)
    refine lv_goto (tgt := 7) cx.x cx.b dX7_bringIn_23 (by decide) ?_
    rw [nI_1] at hl
    exact kk H locs ls ⟨hw, hl⟩
set_option maxHeartbeats 4000000 in
set_option maxRecDepth 100000 in
theorem c_X7_timesOf (l : Launch) (D : va_G) (G : Nat → Nat) (Q : Nat → ClassId) (σ : St) (k : Nat) (hk : k < 4) (lf : Int32) : MI l yX7_timesOf cX7_timesOf 4 .int ({ frames := 2, cells := 0, slots := 0, locals := 42 }) D cls (tyl Q) [.ref (G (5 + k)), .int lf] (kw G Q) (kw G Q σ) (fun r u => r = tO σ k lf 8 ∧ u = σ) 0 0 := by
  refine MI_of (by decide) (Nat.le_of_ble_eq_true rfl) ?_
  intro p e s m args below meth c A ls cx hw hl
  have hl : lv_has ls 4 [(0, .ref (G (5 + k))), (1, .int lf)] := hl
  refine lv_iconst (v := 0) cx.x cx.b dX7_timesOf_0 (by decide) ?_
  refine lv_istore_n (lv' := [(2, .int 0), (0, .ref (G (5 + k))), (1, .int lf)]) cx.x cx.b dX7_timesOf_1 rfl hl (by decide) rfl (fun ls hl => ?_)
  refine lv_iconst (v := 0) cx.x cx.b dX7_timesOf_2 (by decide) ?_
  refine lv_istore_n (lv' := [(3, .int 0), (2, .int 0), (0, .ref (G (5 + k))), (1, .int lf)]) cx.x cx.b dX7_timesOf_3 rfl hl (by decide) rfl (fun ls hl => ?_)
  refine loopN 8 (fun _ => 0) (fun _ => 0) (fun j H locs ls => Wd D cls A s H locs (kw G Q σ) ∧ lv_has ls 4 [(3, .int (nI j)), (2, .int (tO σ k lf j)), (0, .ref (G (5 + k))), (1, .int lf)]) ⟨hw, hl⟩ (fun H locs ls ⟨hw, hl⟩ => ?_) (fun j hj H locs ls ⟨hw, hl⟩ kk => ?_)
  · refine lv_iload_n cx.x cx.b dX7_timesOf_4 rfl (lv_at hl 0 rfl) ?_
    refine lv_bipush (v := 8) cx.x cx.b dX7_timesOf_5 (by decide) ?_
    refine lv_icmp_ge (tgt := 28) cx.x cx.b dX7_timesOf_7 (by decide) (fun hb7 => ?_) (fun hb7 => absurd (by decide) hb7)
    refine lv_iload_n cx.x cx.b dX7_timesOf_28 rfl (lv_at hl 1 rfl) ?_
    exact ret_i σ cx hw ⟨rfl, rfl⟩ dX7_timesOf_29 (Nat.le_of_ble_eq_true rfl) (Nat.le_of_ble_eq_true rfl)
  · refine lv_iload_n cx.x cx.b dX7_timesOf_4 rfl (lv_at hl 0 rfl) ?_
    refine lv_bipush (v := 8) cx.x cx.b dX7_timesOf_5 (by decide) ?_
    refine lv_icmp_ge (tgt := 28) cx.x cx.b dX7_timesOf_7 (by decide) (fun hb7 => absurd hb7 (nI_ge hj (by decide))) (fun hb7 => ?_)
    refine lv_aload_n cx.x cx.b dX7_timesOf_10 rfl (lv_at hl 2 rfl) ?_
    refine lv_iload_n cx.x cx.b dX7_timesOf_11 rfl (lv_at hl 0 rfl) ?_
    refine cgo_i cx hw (rV_i (q0 := (5 + k)) (n := 1) (As := [.int (nI j)]) (rest := []) cx hw (c_X7_loafIn l D G Q σ k hk (nI j)) (gd_V tw_679 tw_383 tw_384 tw_3 tw_385) rfl ⟨by decide +kernel, rfl, hl.1, (Nat.le_of_ble_eq_true rfl), ⟨(Nat.le_of_ble_eq_true rfl), (Nat.le_of_ble_eq_true rfl)⟩, ⟨(Nat.le_of_ble_eq_true rfl), (Nat.le_of_ble_eq_true rfl)⟩, rfl, rfl⟩ rfl (kw_s σ hk) rfl dX7_timesOf_12) (fun r u H locs hp hw => ?_)
    obtain ⟨h8, h9⟩ := hp
    have h8 := h8.symm
    have h9 := h9.symm
    subst h8
    subst h9
    refine lv_iload_n cx.x cx.b dX7_timesOf_15 rfl (lv_at hl 3 rfl) ?_
    refine lv_icmp_ne (tgt := 22) cx.x cx.b dX7_timesOf_16 (by decide) (fun hb16 => ?_) (fun hb16 => ?_)
    · refine lv_iinc (v := ((nI j) + 1)) (lv' := [(3, .int ((nI j) + 1)), (2, .int (tO σ k lf j)), (0, .ref (G (5 + k))), (1, .int lf)]) cx.x cx.b dX7_timesOf_22 hl (k := 0) rfl rfl (by decide) rfl (fun ls hl => ?_)
      refine lv_goto (tgt := 4) cx.x cx.b dX7_timesOf_25 (by decide) ?_
      rw [row_clamp hj] at hb16
      rw [nI_1] at hl
      exact kk H locs ls ⟨hw, by rw [tO, if_neg hb16]; exact hl⟩
    · refine lv_iinc (v := ((tO σ k lf j) + 1)) (lv' := [(2, .int ((tO σ k lf j) + 1)), (3, .int (nI j)), (0, .ref (G (5 + k))), (1, .int lf)]) cx.x cx.b dX7_timesOf_19 hl (k := 1) rfl rfl (by decide) rfl (fun ls hl => ?_)
      refine lv_iinc (v := ((nI j) + 1)) (lv' := [(3, .int ((nI j) + 1)), (2, .int ((tO σ k lf j) + 1)), (0, .ref (G (5 + k))), (1, .int lf)]) cx.x cx.b dX7_timesOf_22 hl (k := 1) rfl rfl (by decide) rfl (fun ls hl => ?_)
      refine lv_goto (tgt := 4) cx.x cx.b dX7_timesOf_25 (by decide) ?_
      rw [row_clamp hj] at hb16
      rw [nI_1] at hl
      exact kk H locs ls ⟨hw, by rw [tO, if_pos hb16]; exact hl⟩
set_option maxHeartbeats 4000000 in
set_option maxRecDepth 100000 in
theorem c_X2_doLay (l : Launch) (hl0 : l.stackTraces = false) (D : va_G) (G : Nat → Nat) (Q : Nat → ClassId) (σ : St) (i : Nat) (hn : i < s_n σ) (hd : s_k σ i < 8) (k : Nat) (hk : k < 4) (pl : Int32) : XV l yX2_doLay cX2_doLay 3 ({ frames := 11, cells := 1, slots := 8, locals := 200 }) D cls (tyl Q) [.ref (s_a σ i), .ref (G (5 + k)), .int pl] (kw G Q) (kw G Q σ) (fun u => ¬ s_z σ k = -1 ∧ hasP (s_z σ k) pl ∧ u = pL0 i k pl σ) (fun E u => layE (s_z σ k) pl E ∧ u = pLf σ) 1 8 := by
  refine XV_of (by decide) (Nat.le_of_ble_eq_true rfl) ?_
  intro p e s m args below meth c A ls htab cx hw hl
  have hl : lv_has ls 3 [(0, .ref (s_a σ i)), (1, .ref (G (5 + k))), (2, .int pl)] := hl
  by_cases hz0 : s_z σ k = -1
  · refine lv_aload_n cx.x cx.b dX2_doLay_0 rfl (lv_at hl 0 rfl) ?_
    refine gt_f (v := .ref (G 1)) cx hw (13 + i) (kw_d σ hn) (cls_d hd) (inD_all _ hd) 0 (by decide) tw_118 ⟨rfl, rfl, Or.inl rfl⟩ rfl dX2_doLay_1 ?_
    refine lv_iconst (v := 2) cx.x cx.b dX2_doLay_4 (by decide) ?_
    refine lv_iconst (v := 0) cx.x cx.b dX2_doLay_5 (by decide) ?_
    refine cgo_v cx hw (rV_v (q0 := 1) (n := 2) (As := [.int 2, .int 0]) (rest := []) cx hw (c_X0_begin l D G Q σ 2 0) (gd_V tw_330 tw_306 tw_307 tw_2 tw_308) rfl ⟨by decide +kernel, rfl, hl.1, (Nat.le_of_ble_eq_true rfl), ⟨(Nat.le_of_ble_eq_true rfl), (Nat.le_of_ble_eq_true rfl)⟩, ⟨(Nat.le_of_ble_eq_true rfl), (Nat.le_of_ble_eq_true rfl)⟩, rfl, rfl⟩ rfl (kw_b σ) rfl dX2_doLay_6) (fun u H locs hp hw => ?_)
    have hp := hp.symm
    subst hp
    refine lv_aload_n cx.x cx.b dX2_doLay_9 rfl (lv_at hl 1 rfl) ?_
    refine cgo_i cx hw (rV_i (q0 := (5 + k)) (n := 0) (As := []) (rest := []) cx hw (c_X7_isOut l D G Q (sBeg 2 0 σ) k hk) (gd_V tw_656 tw_283 tw_284 tw_3 tw_285) rfl ⟨by decide +kernel, rfl, hl.1, (Nat.le_of_ble_eq_true rfl), ⟨(Nat.le_of_ble_eq_true rfl), (Nat.le_of_ble_eq_true rfl)⟩, ⟨(Nat.le_of_ble_eq_true rfl), (Nat.le_of_ble_eq_true rfl)⟩, rfl, rfl⟩ rfl (kw_s (sBeg 2 0 σ) hk) rfl dX2_doLay_10) (fun r u H locs hp hw => ?_)
    obtain ⟨h8, h9⟩ := hp
    have h8 := h8.symm
    have h9 := h9.symm
    subst h8
    subst h9
    refine lv_if_eq (tgt := 39) cx.x cx.b dX2_doLay_13 (by decide) (fun hb13 => absurd hz0 (b01_eq0.mp hb13)) (fun hb13 => ?_)
    refine lv_aload_n cx.x cx.b dX2_doLay_16 rfl (lv_at hl 0 rfl) ?_
    refine gt_f (v := .ref (G 1)) cx hw (13 + i) (kw_d (sBeg 2 0 σ) hn) (cls_d hd) (inD_all _ hd) 0 (by decide) tw_118 ⟨rfl, rfl, Or.inl rfl⟩ rfl dX2_doLay_17 ?_
    refine lv_dup cx.x cx.b dX2_doLay_20 rfl ?_
    refine gt_f (v := .int (s_c σ 5)) cx hw 1 (kw_b (sBeg 2 0 σ)) rfl inX0 5 (by decide) tw_47 ⟨rfl, rfl, Or.inl rfl⟩ rfl dX2_doLay_21 ?_
    refine lv_iconst (v := 1) cx.x cx.b dX2_doLay_24 (by decide) ?_
    refine lv_iadd cx.x cx.b dX2_doLay_25 ?_
    refine pt_f cx hw 1 (kw_b (sBeg 2 0 σ)) rfl inX0 tyX0 tyX0_ok nmX0 5 (by decide) tw_47 ⟨rfl, rfl, Or.inl rfl⟩ rfl rfl rfl rfl (Nat.le_of_ble_eq_true rfl) dX2_doLay_26 (w1 := kw G Q (sC 5 ((s_c σ 5) + 1) (sBeg 2 0 σ))) (kw_sC (by decide)) (fun H locs hw => ?_)
    exact thr_npe (sC 5 ((s_c σ 5) + 1) (sBeg 2 0 σ)) hl0 htab cx hw hl.1 dX2_doLay_29 dX2_doLay_32 dX2_doLay_33 dX2_doLay_35 dX2_doLay_38 ⟨(Nat.le_of_ble_eq_true rfl), (Nat.le_of_ble_eq_true rfl), (Nat.le_of_ble_eq_true rfl), (Nat.le_of_ble_eq_true rfl)⟩ ⟨Or.inl ⟨hz0, rfl⟩, rfl⟩ (Nat.le_of_ble_eq_true rfl) (Nat.le_of_ble_eq_true rfl)
  · by_cases hpp : hasP (s_z σ k) pl
    · obtain ⟨j, hj, rfl, hz⟩ := hasP_nI hpp
      refine lv_aload_n cx.x cx.b dX2_doLay_0 rfl (lv_at hl 0 rfl) ?_
      refine gt_f (v := .ref (G 1)) cx hw (13 + i) (kw_d σ hn) (cls_d hd) (inD_all _ hd) 0 (by decide) tw_118 ⟨rfl, rfl, Or.inl rfl⟩ rfl dX2_doLay_1 ?_
      refine lv_iconst (v := 2) cx.x cx.b dX2_doLay_4 (by decide) ?_
      refine lv_iconst (v := 0) cx.x cx.b dX2_doLay_5 (by decide) ?_
      refine cgo_v cx hw (rV_v (q0 := 1) (n := 2) (As := [.int 2, .int 0]) (rest := []) cx hw (c_X0_begin l D G Q σ 2 0) (gd_V tw_330 tw_306 tw_307 tw_2 tw_308) rfl ⟨by decide +kernel, rfl, hl.1, (Nat.le_of_ble_eq_true rfl), ⟨(Nat.le_of_ble_eq_true rfl), (Nat.le_of_ble_eq_true rfl)⟩, ⟨(Nat.le_of_ble_eq_true rfl), (Nat.le_of_ble_eq_true rfl)⟩, rfl, rfl⟩ rfl (kw_b σ) rfl dX2_doLay_6) (fun u H locs hp hw => ?_)
      have hp := hp.symm
      subst hp
      refine lv_aload_n cx.x cx.b dX2_doLay_9 rfl (lv_at hl 1 rfl) ?_
      refine cgo_i cx hw (rV_i (q0 := (5 + k)) (n := 0) (As := []) (rest := []) cx hw (c_X7_isOut l D G Q (sBeg 2 0 σ) k hk) (gd_V tw_656 tw_283 tw_284 tw_3 tw_285) rfl ⟨by decide +kernel, rfl, hl.1, (Nat.le_of_ble_eq_true rfl), ⟨(Nat.le_of_ble_eq_true rfl), (Nat.le_of_ble_eq_true rfl)⟩, ⟨(Nat.le_of_ble_eq_true rfl), (Nat.le_of_ble_eq_true rfl)⟩, rfl, rfl⟩ rfl (kw_s (sBeg 2 0 σ) hk) rfl dX2_doLay_10) (fun r u H locs hp hw => ?_)
      obtain ⟨h8, h9⟩ := hp
      have h8 := h8.symm
      have h9 := h9.symm
      subst h8
      subst h9
      refine lv_if_eq (tgt := 39) cx.x cx.b dX2_doLay_13 (by decide) (fun hb13 => ?_) (fun hb13 => absurd (b01_eq0.mpr hz0) hb13)
      refine lv_aload_n cx.x cx.b dX2_doLay_39 rfl (lv_at hl 1 rfl) ?_
      refine lv_iload_n cx.x cx.b dX2_doLay_40 rfl (lv_at hl 2 rfl) ?_
      refine cgo_i cx hw (rV_i (q0 := (5 + k)) (n := 1) (As := [.int (nI j)]) (rest := []) cx hw (c_X7_has l D G Q (sBeg 2 0 σ) k hk (nI j)) (gd_V tw_663 tw_387 tw_388 tw_3 tw_389) rfl ⟨by decide +kernel, rfl, hl.1, (Nat.le_of_ble_eq_true rfl), ⟨(Nat.le_of_ble_eq_true rfl), (Nat.le_of_ble_eq_true rfl)⟩, ⟨(Nat.le_of_ble_eq_true rfl), (Nat.le_of_ble_eq_true rfl)⟩, rfl, rfl⟩ rfl (kw_s (sBeg 2 0 σ) hk) rfl dX2_doLay_41) (fun r u H locs hp hw => ?_)
      obtain ⟨h8, h9⟩ := hp
      have h8 := h8.symm
      have h9 := h9.symm
      subst h8
      subst h9
      refine lv_if_ne (tgt := 70) cx.x cx.b dX2_doLay_44 (by decide) (fun hb44 => ?_) (fun hb44 => absurd hpp (b01_eq0.mp hb44))
      refine lv_aload_n cx.x cx.b dX2_doLay_70 rfl (lv_at hl 1 rfl) ?_
      refine lv_iload_n cx.x cx.b dX2_doLay_71 rfl (lv_at hl 2 rfl) ?_
      refine lv_aload_n cx.x cx.b dX2_doLay_72 rfl (lv_at hl 0 rfl) ?_
      refine gt_f (v := .int (nI i)) cx hw (13 + i) (kw_d (sBeg 2 0 σ) hn) (cls_d hd) (inD_all _ hd) 1 (by decide) tw_131 ⟨rfl, rfl, Or.inl rfl⟩ rfl dX2_doLay_73 ?_
      refine cgo_v cx hw (rV_v (q0 := (5 + k)) (n := 2) (As := [.int (nI j), .int (nI i)]) (rest := []) cx hw (c_X7_put l D G Q (sBeg 2 0 σ) k hk j hj hz (nI i)) (gd_V tw_667 tw_668 tw_669 tw_3 tw_670) rfl ⟨by decide +kernel, rfl, hl.1, (Nat.le_of_ble_eq_true rfl), ⟨(Nat.le_of_ble_eq_true rfl), (Nat.le_of_ble_eq_true rfl)⟩, ⟨(Nat.le_of_ble_eq_true rfl), (Nat.le_of_ble_eq_true rfl)⟩, rfl, rfl⟩ rfl (kw_s (sBeg 2 0 σ) hk) rfl dX2_doLay_76) (fun u H locs hp hw => ?_)
      have hp := hp.symm
      subst hp
      exact xret_v (sR k j (nI i) (sBeg 2 0 σ)) cx hw ⟨hz0, hpp, by unfold pL0; rw [row_clamp hj]⟩ dX2_doLay_79 (Nat.le_of_ble_eq_true rfl) (Nat.le_of_ble_eq_true rfl)
    · refine lv_aload_n cx.x cx.b dX2_doLay_0 rfl (lv_at hl 0 rfl) ?_
      refine gt_f (v := .ref (G 1)) cx hw (13 + i) (kw_d σ hn) (cls_d hd) (inD_all _ hd) 0 (by decide) tw_118 ⟨rfl, rfl, Or.inl rfl⟩ rfl dX2_doLay_1 ?_
      refine lv_iconst (v := 2) cx.x cx.b dX2_doLay_4 (by decide) ?_
      refine lv_iconst (v := 0) cx.x cx.b dX2_doLay_5 (by decide) ?_
      refine cgo_v cx hw (rV_v (q0 := 1) (n := 2) (As := [.int 2, .int 0]) (rest := []) cx hw (c_X0_begin l D G Q σ 2 0) (gd_V tw_330 tw_306 tw_307 tw_2 tw_308) rfl ⟨by decide +kernel, rfl, hl.1, (Nat.le_of_ble_eq_true rfl), ⟨(Nat.le_of_ble_eq_true rfl), (Nat.le_of_ble_eq_true rfl)⟩, ⟨(Nat.le_of_ble_eq_true rfl), (Nat.le_of_ble_eq_true rfl)⟩, rfl, rfl⟩ rfl (kw_b σ) rfl dX2_doLay_6) (fun u H locs hp hw => ?_)
      have hp := hp.symm
      subst hp
      refine lv_aload_n cx.x cx.b dX2_doLay_9 rfl (lv_at hl 1 rfl) ?_
      refine cgo_i cx hw (rV_i (q0 := (5 + k)) (n := 0) (As := []) (rest := []) cx hw (c_X7_isOut l D G Q (sBeg 2 0 σ) k hk) (gd_V tw_656 tw_283 tw_284 tw_3 tw_285) rfl ⟨by decide +kernel, rfl, hl.1, (Nat.le_of_ble_eq_true rfl), ⟨(Nat.le_of_ble_eq_true rfl), (Nat.le_of_ble_eq_true rfl)⟩, ⟨(Nat.le_of_ble_eq_true rfl), (Nat.le_of_ble_eq_true rfl)⟩, rfl, rfl⟩ rfl (kw_s (sBeg 2 0 σ) hk) rfl dX2_doLay_10) (fun r u H locs hp hw => ?_)
      obtain ⟨h8, h9⟩ := hp
      have h8 := h8.symm
      have h9 := h9.symm
      subst h8
      subst h9
      refine lv_if_eq (tgt := 39) cx.x cx.b dX2_doLay_13 (by decide) (fun hb13 => ?_) (fun hb13 => absurd (b01_eq0.mpr hz0) hb13)
      refine lv_aload_n cx.x cx.b dX2_doLay_39 rfl (lv_at hl 1 rfl) ?_
      refine lv_iload_n cx.x cx.b dX2_doLay_40 rfl (lv_at hl 2 rfl) ?_
      refine cgo_i cx hw (rV_i (q0 := (5 + k)) (n := 1) (As := [.int pl]) (rest := []) cx hw (c_X7_has l D G Q (sBeg 2 0 σ) k hk pl) (gd_V tw_663 tw_387 tw_388 tw_3 tw_389) rfl ⟨by decide +kernel, rfl, hl.1, (Nat.le_of_ble_eq_true rfl), ⟨(Nat.le_of_ble_eq_true rfl), (Nat.le_of_ble_eq_true rfl)⟩, ⟨(Nat.le_of_ble_eq_true rfl), (Nat.le_of_ble_eq_true rfl)⟩, rfl, rfl⟩ rfl (kw_s (sBeg 2 0 σ) hk) rfl dX2_doLay_41) (fun r u H locs hp hw => ?_)
      obtain ⟨h8, h9⟩ := hp
      have h8 := h8.symm
      have h9 := h9.symm
      subst h8
      subst h9
      refine lv_if_ne (tgt := 70) cx.x cx.b dX2_doLay_44 (by decide) (fun hb44 => absurd (b01_eq0.mpr hpp) hb44) (fun hb44 => ?_)
      refine lv_aload_n cx.x cx.b dX2_doLay_47 rfl (lv_at hl 0 rfl) ?_
      refine gt_f (v := .ref (G 1)) cx hw (13 + i) (kw_d (sBeg 2 0 σ) hn) (cls_d hd) (inD_all _ hd) 0 (by decide) tw_118 ⟨rfl, rfl, Or.inl rfl⟩ rfl dX2_doLay_48 ?_
      refine lv_dup cx.x cx.b dX2_doLay_51 rfl ?_
      refine gt_f (v := .int (s_c σ 5)) cx hw 1 (kw_b (sBeg 2 0 σ)) rfl inX0 5 (by decide) tw_47 ⟨rfl, rfl, Or.inl rfl⟩ rfl dX2_doLay_52 ?_
      refine lv_iconst (v := 1) cx.x cx.b dX2_doLay_55 (by decide) ?_
      refine lv_iadd cx.x cx.b dX2_doLay_56 ?_
      refine pt_f cx hw 1 (kw_b (sBeg 2 0 σ)) rfl inX0 tyX0 tyX0_ok nmX0 5 (by decide) tw_47 ⟨rfl, rfl, Or.inl rfl⟩ rfl rfl rfl rfl (Nat.le_of_ble_eq_true rfl) dX2_doLay_57 (w1 := kw G Q (sC 5 ((s_c σ 5) + 1) (sBeg 2 0 σ))) (kw_sC (by decide)) (fun H locs hw => ?_)
      exact thr_v (sC 5 ((s_c σ 5) + 1) (sBeg 2 0 σ)) hl0 htab cx hw (ok_IOB cx) hl.1 dX2_doLay_60 dX2_doLay_63 dX2_doLay_64 dX2_doLay_66 dX2_doLay_69 ⟨(Nat.le_of_ble_eq_true rfl), (Nat.le_of_ble_eq_true rfl), (Nat.le_of_ble_eq_true rfl), (Nat.le_of_ble_eq_true rfl)⟩ ⟨Or.inr ⟨hz0, hpp, rfl⟩, rfl⟩ (Nat.le_of_ble_eq_true rfl) (Nat.le_of_ble_eq_true rfl)
set_option maxHeartbeats 4000000 in
set_option maxRecDepth 100000 in
theorem c_X3_doLay (l : Launch) (hl0 : l.stackTraces = false) (D : va_G) (G : Nat → Nat) (Q : Nat → ClassId) (σ : St) (i : Nat) (hn : i < s_n σ) (hd : s_k σ i < 8) (k : Nat) (hk : k < 4) (pl : Int32) : XV l yX3_doLay cX3_doLay 3 ({ frames := 12, cells := 1, slots := 8, locals := 222 }) D cls (tyl Q) [.ref (s_a σ i), .ref (G (5 + k)), .int pl] (kw G Q) (kw G Q σ) (fun u => ¬ s_z σ k = -1 ∧ hasP (s_z σ k) (pl / 2) ∧ u = pL0 i k (pl / 2) (sBeg 2 6 σ)) (fun E u => layE (s_z σ k) (pl / 2) E ∧ u = pLf (sBeg 2 6 σ)) 1 8 := by
  refine XV_of (by decide) (Nat.le_of_ble_eq_true rfl) ?_
  intro p e s m args below meth c A ls htab cx hw hl
  have hl : lv_has ls 3 [(0, .ref (s_a σ i)), (1, .ref (G (5 + k))), (2, .int pl)] := hl
  refine lv_aload_n cx.x cx.b dX3_doLay_0 rfl (lv_at hl 0 rfl) ?_
  refine gt_f (v := .ref (G 1)) cx hw (13 + i) (kw_d σ hn) (cls_d hd) (inD_all _ hd) 0 (by decide) tw_129 ⟨rfl, rfl, Or.inr tw_130⟩ rfl dX3_doLay_1 ?_
  refine lv_iconst (v := 2) cx.x cx.b dX3_doLay_4 (by decide) ?_
  refine lv_bipush (v := 6) cx.x cx.b dX3_doLay_5 (by decide) ?_
  refine cgo_v cx hw (rV_v (q0 := 1) (n := 2) (As := [.int 2, .int 6]) (rest := []) cx hw (c_X0_begin l D G Q σ 2 6) (gd_V tw_315 tw_306 tw_307 tw_2 tw_308) rfl ⟨by decide +kernel, rfl, hl.1, (Nat.le_of_ble_eq_true rfl), ⟨(Nat.le_of_ble_eq_true rfl), (Nat.le_of_ble_eq_true rfl)⟩, ⟨(Nat.le_of_ble_eq_true rfl), (Nat.le_of_ble_eq_true rfl)⟩, rfl, rfl⟩ rfl (kw_b σ) rfl dX3_doLay_7) (fun u H locs hp hw => ?_)
  have hp := hp.symm
  subst hp
  refine lv_aload_n cx.x cx.b dX3_doLay_10 rfl (lv_at hl 0 rfl) ?_
  refine lv_aload_n cx.x cx.b dX3_doLay_11 rfl (lv_at hl 1 rfl) ?_
  refine lv_iload_n cx.x cx.b dX3_doLay_12 rfl (lv_at hl 2 rfl) ?_
  refine lv_iconst (v := 2) cx.x cx.b dX3_doLay_13 (by decide) ?_
  refine lv_idiv cx.x cx.b dX3_doLay_14 (by decide) ?_
  refine cgo_xv cx hw (rSU_xv (x := ⟨"BakeHouse$Dough", "doLay", "(LBakeHouse$Shelf;I)V"⟩) (n := 2) (As := [.ref (G (5 + k)), .int (pl / 2)]) (rest := []) cx hw (c_X2_doLay l hl0 D G Q (sBeg 2 6 σ) i hn hd k hk (pl / 2)) ⟨rfl, tw_641, tw_631, tw_247, tw_629, tw_5, tw_655, by decide, sb_up_rf⟩ ⟨by decide +kernel, rfl, hl.1, (Nat.le_of_ble_eq_true rfl), ⟨(Nat.le_of_ble_eq_true rfl), (Nat.le_of_ble_eq_true rfl)⟩, ⟨(Nat.le_of_ble_eq_true rfl), (Nat.le_of_ble_eq_true rfl)⟩, rfl, rfl⟩ rfl (kw_d (sBeg 2 6 σ) hn) (cls_d hd) dX3_doLay_15) (fun E ce q u H locs hp hw h1 h2 h3 => ?_) (fun u H locs hp hw => ?_)
  · obtain ⟨hx1, rfl⟩ := hp
    exact xout_v _ htab cx hw ⟨hx1, rfl⟩ (Nat.le_of_ble_eq_true rfl) (Nat.le_of_ble_eq_true rfl) h1 h2 h3
  obtain ⟨g1, g2, h9⟩ := hp
  have h9 := h9.symm
  subst h9
  exact xret_v (pL0 i k (pl / 2) (sBeg 2 6 σ)) cx hw ⟨g1, g2, rfl⟩ dX3_doLay_18 (Nat.le_of_ble_eq_true rfl) (Nat.le_of_ble_eq_true rfl)
theorem cwu_foldL {k : Nat} (h : k = 7) : CwU "BakeHouse$Levain" (kR k) "BakeHouse$Sour" 29 ⟨"BakeHouse$Levain", "doFold", "()V"⟩ yX8_doFold cX8_doFold 1 none := by
  subst h
  exact ⟨tw_646, tw_647, tw_318, tw_649, tw_318, tw_9, tw_319, ⟨_, _, _, tw_319⟩, by decide, rfl⟩
set_option maxHeartbeats 4000000 in
set_option maxRecDepth 100000 in
theorem c_X5_doLay (l : Launch) (hl0 : l.stackTraces = false) (D : va_G) (G : Nat → Nat) (Q : Nat → ClassId) (σ : St) (i : Nat) (hn : i < s_n σ) (hd : s_k σ i < 8) (k : Nat) (hk : k < 4) (h7 : s_k σ i = 7) (ac : Nat) (hac : s_F σ 6 i = nI ac) (hab : ac < 2 ^ 30) (pl : Int32) : XV l yX5_doLay cX5_doLay 3 ({ frames := 12, cells := 1, slots := 8, locals := 222 }) D cls (tyl Q) [.ref (s_a σ i), .ref (G (5 + k)), .int pl] (kw G Q) (kw G Q σ) (fun u => ¬ s_z σ k = -1 ∧ hasP (s_z σ k) pl ∧ u = pL0 i k pl (pF4 i (sBeg 2 7 σ))) (fun E u => layE (s_z σ k) pl E ∧ u = pLf (pF4 i (sBeg 2 7 σ))) 1 8 := by
  refine XV_of (by decide) (Nat.le_of_ble_eq_true rfl) ?_
  intro p e s m args below meth c A ls htab cx hw hl
  have hl : lv_has ls 3 [(0, .ref (s_a σ i)), (1, .ref (G (5 + k))), (2, .int pl)] := hl
  refine lv_aload_n cx.x cx.b dX5_doLay_0 rfl (lv_at hl 0 rfl) ?_
  refine gt_f (v := .ref (G 1)) cx hw (13 + i) (kw_d σ hn) (cls_d hd) (inD_all _ hd) 0 (by decide) tw_121 ⟨rfl, rfl, Or.inr tw_122⟩ rfl dX5_doLay_1 ?_
  refine lv_iconst (v := 2) cx.x cx.b dX5_doLay_4 (by decide) ?_
  refine lv_bipush (v := 7) cx.x cx.b dX5_doLay_5 (by decide) ?_
  refine cgo_v cx hw (rV_v (q0 := 1) (n := 2) (As := [.int 2, .int 7]) (rest := []) cx hw (c_X0_begin l D G Q σ 2 7) (gd_V tw_494 tw_306 tw_307 tw_2 tw_308) rfl ⟨by decide +kernel, rfl, hl.1, (Nat.le_of_ble_eq_true rfl), ⟨(Nat.le_of_ble_eq_true rfl), (Nat.le_of_ble_eq_true rfl)⟩, ⟨(Nat.le_of_ble_eq_true rfl), (Nat.le_of_ble_eq_true rfl)⟩, rfl, rfl⟩ rfl (kw_b σ) rfl dX5_doLay_7) (fun u H locs hp hw => ?_)
  have hp := hp.symm
  subst hp
  refine lv_aload_n cx.x cx.b dX5_doLay_10 rfl (lv_at hl 0 rfl) ?_
  refine cgo_v cx hw (rU_v (x := ⟨"BakeHouse$Levain", "doFold", "()V"⟩) (n := 0) (As := []) (rest := []) cx hw (c_X8_doFold l D G Q (sBeg 2 7 σ) i hn hd ac hac hab) (cwu_foldL h7) ⟨by decide +kernel, rfl, hl.1, (Nat.le_of_ble_eq_true rfl), ⟨(Nat.le_of_ble_eq_true rfl), (Nat.le_of_ble_eq_true rfl)⟩, ⟨(Nat.le_of_ble_eq_true rfl), (Nat.le_of_ble_eq_true rfl)⟩, rfl, rfl⟩ rfl (kw_d (sBeg 2 7 σ) hn) (cls_d hd) dX5_doLay_11) (fun u H locs hp hw => ?_)
  have hp := hp.symm
  subst hp
  refine lv_aload_n cx.x cx.b dX5_doLay_14 rfl (lv_at hl 0 rfl) ?_
  refine lv_aload_n cx.x cx.b dX5_doLay_15 rfl (lv_at hl 1 rfl) ?_
  refine lv_iload_n cx.x cx.b dX5_doLay_16 rfl (lv_at hl 2 rfl) ?_
  refine cgo_xv cx hw (rSU_xv (x := ⟨"BakeHouse$Sour", "doLay", "(LBakeHouse$Shelf;I)V"⟩) (n := 2) (As := [.ref (G (5 + k)), .int pl]) (rest := []) cx hw (c_X2_doLay l hl0 D G Q (pF4 i (sBeg 2 7 σ)) i hn hd k hk pl) ⟨rfl, tw_650, tw_651, tw_262, tw_629, tw_5, tw_655, by decide, (sb_up_of (cx.ts _ tw_217) (cx.ts _ tw_273) (va_Nw.use rfl (cx.ev.2.2.2.2.1 _ (by decide +kernel))))⟩ ⟨by decide +kernel, rfl, hl.1, (Nat.le_of_ble_eq_true rfl), ⟨(Nat.le_of_ble_eq_true rfl), (Nat.le_of_ble_eq_true rfl)⟩, ⟨(Nat.le_of_ble_eq_true rfl), (Nat.le_of_ble_eq_true rfl)⟩, rfl, rfl⟩ rfl (kw_d (pF4 i (sBeg 2 7 σ)) hn) (cls_d hd) dX5_doLay_17) (fun E ce q u H locs hp hw h1 h2 h3 => ?_) (fun u H locs hp hw => ?_)
  · obtain ⟨hx1, rfl⟩ := hp
    exact xout_v _ htab cx hw ⟨hx1, rfl⟩ (Nat.le_of_ble_eq_true rfl) (Nat.le_of_ble_eq_true rfl) h1 h2 h3
  obtain ⟨g1, g2, h9⟩ := hp
  have h9 := h9.symm
  subst h9
  exact xret_v (pL0 i k pl (pF4 i (sBeg 2 7 σ))) cx hw ⟨g1, g2, rfl⟩ dX5_doLay_20 (Nat.le_of_ble_eq_true rfl) (Nat.le_of_ble_eq_true rfl)
set_option maxHeartbeats 4000000 in
set_option maxRecDepth 100000 in
theorem c_X1_doLay (l : Launch) (hl0 : l.stackTraces = false) (D : va_G) (G : Nat → Nat) (Q : Nat → ClassId) (σ : St) (i : Nat) (hn : i < s_n σ) (hd : s_k σ i < 8) (k : Nat) (hk : k < 4) (pl : Int32) : XV l yX1_doLay cX1_doLay 3 ({ frames := 12, cells := 2, slots := 16, locals := 222 }) D cls (tyl Q) [.ref (s_a σ i), .ref (G (5 + k)), .int pl] (kw G Q) (kw G Q σ) (fun u => ¬ s_z σ k = -1 ∧ hasP (s_z σ k) pl ∧ hasP (s_z σ k) (pl + 1) ∧ u = pL0 i k (pl + 1) (pL0 i k pl (sBeg 2 5 σ))) (fun E u => (layE (s_z σ k) pl E ∧ u = pLf (sBeg 2 5 σ)) ∨ (¬ s_z σ k = -1 ∧ hasP (s_z σ k) pl ∧ layE (s_z σ k) (pl + 1) E ∧ u = pLf (pL0 i k pl (sBeg 2 5 σ)))) 2 16 := by
  refine XV_of (by decide) (Nat.le_of_ble_eq_true rfl) ?_
  intro p e s m args below meth c A ls htab cx hw hl
  have hl : lv_has ls 3 [(0, .ref (s_a σ i)), (1, .ref (G (5 + k))), (2, .int pl)] := hl
  refine lv_aload_n cx.x cx.b dX1_doLay_0 rfl (lv_at hl 0 rfl) ?_
  refine gt_f (v := .ref (G 1)) cx hw (13 + i) (kw_d σ hn) (cls_d hd) (inD_all _ hd) 0 (by decide) tw_119 ⟨rfl, rfl, Or.inr tw_120⟩ rfl dX1_doLay_1 ?_
  refine lv_iconst (v := 2) cx.x cx.b dX1_doLay_4 (by decide) ?_
  refine lv_iconst (v := 5) cx.x cx.b dX1_doLay_5 (by decide) ?_
  refine cgo_v cx hw (rV_v (q0 := 1) (n := 2) (As := [.int 2, .int 5]) (rest := []) cx hw (c_X0_begin l D G Q σ 2 5) (gd_V tw_405 tw_306 tw_307 tw_2 tw_308) rfl ⟨by decide +kernel, rfl, hl.1, (Nat.le_of_ble_eq_true rfl), ⟨(Nat.le_of_ble_eq_true rfl), (Nat.le_of_ble_eq_true rfl)⟩, ⟨(Nat.le_of_ble_eq_true rfl), (Nat.le_of_ble_eq_true rfl)⟩, rfl, rfl⟩ rfl (kw_b σ) rfl dX1_doLay_6) (fun u H locs hp hw => ?_)
  have hp := hp.symm
  subst hp
  refine lv_aload_n cx.x cx.b dX1_doLay_9 rfl (lv_at hl 0 rfl) ?_
  refine lv_aload_n cx.x cx.b dX1_doLay_10 rfl (lv_at hl 1 rfl) ?_
  refine lv_iload_n cx.x cx.b dX1_doLay_11 rfl (lv_at hl 2 rfl) ?_
  refine cgo_xv cx hw (rSU_xv (x := ⟨"BakeHouse$Sweet", "doLay", "(LBakeHouse$Shelf;I)V"⟩) (n := 2) (As := [.ref (G (5 + k)), .int pl]) (rest := []) cx hw (c_X2_doLay l hl0 D G Q (sBeg 2 5 σ) i hn hd k hk pl) ⟨rfl, tw_635, tw_636, tw_232, tw_629, tw_5, tw_655, by decide, (sb_up_of (cx.ts _ tw_202) (cx.ts _ tw_273) (va_Nw.use rfl (cx.ev.2.2.2.2.1 _ (by decide +kernel))))⟩ ⟨by decide +kernel, rfl, hl.1, (Nat.le_of_ble_eq_true rfl), ⟨(Nat.le_of_ble_eq_true rfl), (Nat.le_of_ble_eq_true rfl)⟩, ⟨(Nat.le_of_ble_eq_true rfl), (Nat.le_of_ble_eq_true rfl)⟩, rfl, rfl⟩ rfl (kw_d (sBeg 2 5 σ) hn) (cls_d hd) dX1_doLay_12) (fun E ce q u H locs hp hw h1 h2 h3 => ?_) (fun u H locs hp hw => ?_)
  · obtain ⟨hx1, rfl⟩ := hp
    exact xout_v _ htab cx hw (Or.inl ⟨hx1, rfl⟩) (Nat.le_of_ble_eq_true rfl) (Nat.le_of_ble_eq_true rfl) h1 h2 h3
  obtain ⟨g1, g2, h9⟩ := hp
  have h9 := h9.symm
  subst h9
  refine lv_aload_n cx.x cx.b dX1_doLay_15 rfl (lv_at hl 0 rfl) ?_
  refine lv_aload_n cx.x cx.b dX1_doLay_16 rfl (lv_at hl 1 rfl) ?_
  refine lv_iload_n cx.x cx.b dX1_doLay_17 rfl (lv_at hl 2 rfl) ?_
  refine lv_iconst (v := 1) cx.x cx.b dX1_doLay_18 (by decide) ?_
  refine lv_iadd cx.x cx.b dX1_doLay_19 ?_
  refine cgo_xv cx hw (rSU_xv (x := ⟨"BakeHouse$Sweet", "doLay", "(LBakeHouse$Shelf;I)V"⟩) (n := 2) (As := [.ref (G (5 + k)), .int (pl + 1)]) (rest := []) cx hw (c_X2_doLay l hl0 D G Q (pL0 i k pl (sBeg 2 5 σ)) i hn hd k hk (pl + 1)) ⟨rfl, tw_635, tw_636, tw_232, tw_629, tw_5, tw_655, by decide, (sb_up_of (cx.ts _ tw_202) (cx.ts _ tw_273) (va_Nw.use rfl (cx.ev.2.2.2.2.1 _ (by decide +kernel))))⟩ ⟨by decide +kernel, rfl, hl.1, (Nat.le_of_ble_eq_true rfl), ⟨(Nat.le_of_ble_eq_true rfl), (Nat.le_of_ble_eq_true rfl)⟩, ⟨(Nat.le_of_ble_eq_true rfl), (Nat.le_of_ble_eq_true rfl)⟩, rfl, rfl⟩ rfl (kw_d (pL0 i k pl (sBeg 2 5 σ)) hn) (cls_d hd) dX1_doLay_20) (fun E ce q u H locs hp hw h1 h2 h3 => ?_) (fun u H locs hp hw => ?_)
  · obtain ⟨hx1, rfl⟩ := hp
    exact xout_v _ htab cx hw (Or.inr ⟨g1, g2, hx1, rfl⟩) (Nat.le_of_ble_eq_true rfl) (Nat.le_of_ble_eq_true rfl) h1 h2 h3
  obtain ⟨g3, g4, h9⟩ := hp
  have h9 := h9.symm
  subst h9
  exact xret_v (pL0 i k (pl + 1) (pL0 i k pl (sBeg 2 5 σ))) cx hw ⟨g1, g2, g4, rfl⟩ dX1_doLay_23 (Nat.le_of_ble_eq_true rfl) (Nat.le_of_ble_eq_true rfl)
end
section
/-! the acts by the kinds, and what the calls answer -/
abbrev fRest (kd i : Nat) (mi : Int32) (σ : St) : Prop := kd = 5 ∧ 90 ≤ s_F (pR5a i mi σ) 4 i
def rRest (kd i : Nat) (mi : Int32) (σ : St) : St := if kd = 2 then pR2 i mi σ else if kd = 4 then pR4 i mi σ else if kd = 7 then pR7 i mi σ else if kd = 5 then (if 90 ≤ s_F (pR5a i mi σ) 4 i then pR5f i mi σ else pR5a i mi σ) else pR0 i mi σ
def rFold (kd i : Nat) (σ : St) : St := if kd = 3 ∨ kd = 5 then pF3 i σ else if kd = 4 ∨ kd = 7 then pF4 i σ else if kd = 6 then pF6 i σ else pF0 i σ
def rBake (kd i : Nat) (ht : Int32) (σ : St) : St := if kd = 2 then pB2 i ht σ else if kd = 3 ∨ kd = 5 then pB3 i ht σ else if kd = 4 ∨ kd = 7 then pB4 i ht σ else if kd = 6 then pB6 i ht σ else pB0 i ht σ
def vBake (kd i : Nat) (ht : Int32) (σ : St) : Int32 := if kd = 3 ∨ kd = 5 then b01 (20 ≤ s_F (pB3 i ht σ) 7 i ∧ s_F (pB3 i ht σ) 7 i ≤ 60) else if kd = 4 ∨ kd = 7 then b01 (20 ≤ s_F (pB4 i ht σ) 7 i ∨ 5 < s_F (pB4 i ht σ) 6 i) else b01 (20 ≤ s_F (rBake kd i ht σ) 7 i)
theorem vBake_nar {kd i : Nat} {ht : Int32} {σ : St} : narrow .boolean (.int (vBake kd i ht σ)) = .int (vBake kd i ht σ) := by
  unfold vBake; split
  · exact b01_nar
  · split <;> exact b01_nar
abbrev fWorth (kd i : Nat) (σ : St) : Prop := kd = 6 ∧ s_F σ 7 i = 0
def rWorth (kd i : Nat) (σ : St) : St := if kd = 4 then pW4 σ else if kd = 7 then pW7 σ else if kd = 5 then pW5 σ else if kd = 6 then (if s_F σ 7 i = 0 then pW6f σ else sBeg 4 6 σ) else sBeg 4 0 σ
def vWorth (kd i : Nat) (σ : St) : Int32 := if kd = 4 then vW0 i σ + s_F σ 6 i else if kd = 7 then vW0 i σ + s_F σ 6 i + (if 20 ≤ s_F σ 7 i then 5 else 0) else if kd = 5 then 2 * vW0 i σ else if kd = 6 then (if s_F σ 7 i = 0 then 0 else 1000 / s_F σ 7 i) else vW0 i σ
def layW (z pl : Int32) : Nat := if z = -1 then 1 else if hasP z pl then 0 else 2
def wLay (kd : Nat) (z pl : Int32) : Nat := if kd = 5 then (if layW z pl = 0 then layW z (pl + 1) else layW z pl) else if kd = 6 then layW z (pl / 2) else layW z pl
def lay0 (i k : Nat) (pl : Int32) (σ : St) : St := if layW (s_z σ k) pl = 0 then pL0 i k pl σ else sBeg 2 0 σ
def sLay (kd i k : Nat) (pl : Int32) (σ : St) : St := if kd = 5 then (if layW (s_z σ k) pl = 0 then lay0 i k (pl + 1) (lay0 i k pl (sBeg 2 5 σ)) else lay0 i k pl (sBeg 2 5 σ)) else if kd = 6 then lay0 i k (pl / 2) (sBeg 2 6 σ) else if kd = 7 then lay0 i k pl (pF4 i (sBeg 2 7 σ)) else lay0 i k pl σ
def missd (σ : St) : St := sC 5 (s_c σ 5 + 1) σ
theorem layW_0 {z pl : Int32} (h1 : ¬ z = -1) (h2 : hasP z pl) : layW z pl = 0 := by simp [layW, h1, h2]
theorem layE_1 {z pl : Int32} {E : String} (h : layE z pl E) : (layW z pl = 1 ∧ E = "java/lang/NullPointerException") ∨ (layW z pl = 2 ∧ E = "java/lang/ArrayIndexOutOfBoundsException") := by
  rcases h with ⟨h1, h2⟩ | ⟨h1, h2, h3⟩
  · exact Or.inl ⟨by simp [layW, h1], h2⟩
  · exact Or.inr ⟨by simp [layW, h1, h2], h3⟩
theorem layE_n {z pl : Int32} {E : String} (h : layE z pl E) : ¬ layW z pl = 0 := by
  rcases layE_1 h with ⟨h, -⟩ | ⟨h, -⟩ <;> omega
abbrev ecode (w : Nat) (E : String) : Prop := (w = 1 ∧ E = "java/lang/NullPointerException") ∨ (w = 2 ∧ E = "java/lang/ArrayIndexOutOfBoundsException")
/-- what always holds; b rules may still begin -/
def Inv (b : Nat) (σ : St) : Prop := s_n σ ≤ 20 ∧ (∀ i, i < s_n σ → s_k σ i < 8) ∧ (∀ k, k < 4 → s_z σ k = -1 ∨ ∃ j, j ≤ 8 ∧ s_z σ k = nI j) ∧ (∀ i, ∃ a, a ≤ s_N σ ∧ s_F σ 6 i = nI a) ∧ s_N σ + b < 2 ^ 30 ∧ (∀ k, k < 4 → ∀ j, j < 8 → ¬ s_z σ k = -1 → s_r σ k j = -1 ∨ ∃ i, i < s_n σ ∧ s_r σ k j = nI i) ∧ (∀ f i, s_n σ ≤ i → 4 ≤ f → s_F σ f i = 0) ∧ (∀ i, s_n σ ≤ i → s_k σ i = 0)
theorem Inv.n {b : Nat} {σ : St} (h : Inv b σ) : s_n σ ≤ 20 := h.1
theorem Inv.k {b : Nat} {σ : St} (h : Inv b σ) {i : Nat} (hi : i < s_n σ) : s_k σ i < 8 := h.2.1 i hi
theorem Inv.ac {b : Nat} {σ : St} (h : Inv b σ) (i : Nat) : ∃ a, s_F σ 6 i = nI a ∧ a < 2 ^ 30 := by
  obtain ⟨a, h1, h2⟩ := h.2.2.2.1 i
  exact ⟨a, h2, by have := h.2.2.2.2.1; omega⟩
theorem vp_no {x : Int32} {n : Nat} (hn : n < 2 ^ 31) : ¬ vp_in x n ↔ x < 0 ∨ nI n ≤ x := by
  constructor
  · intro h
    rcases pk_ix x hn with h1 | h1 | ⟨j, hj, rfl⟩
    · exact Or.inl h1
    · exact Or.inr h1
    · exact absurd (vp_in_nI hj hn) h
  · intro h h2
    obtain ⟨j, hj, rfl⟩ := vp_in_of h2 hn
    rcases h with h | h
    · exact nI_pos (by omega) h
    · exact nI_ge hj hn h
theorem wth_nI {j a b : Nat} (h1 : a ≤ j) (h2 : j ≤ b) (hb : b < 2 ^ 31) : ¬ wth (nI j) (nI a) (nI b) = 0 := by
  rw [wth_eq0]; exact fun h => h ⟨nI_le h1 (by omega), nI_le h2 hb⟩
theorem wth_of {x : Int32} {b : Nat} (hb : b + 1 < 2 ^ 31) (h : ¬ vp_in x (b + 1)) : wth x 0 (nI b) = 0 := by
  rw [wth_eq0]
  rw [vp_no hb] at h
  intro ⟨h1, h2⟩
  rcases h with h | h
  · exact Int32.not_lt.mpr h1 h
  · obtain ⟨j, hj, rfl⟩ := nI_of (x := x) (Int32.not_lt.mpr h1)
    rw [nI_leI (by omega) (by omega)] at h2
    rw [nI_leI (by omega) (by omega)] at h
    omega
theorem lay0_p {i k : Nat} {pl : Int32} {σ : St} (h : layW (s_z σ k) pl = 0) : lay0 i k pl σ = pL0 i k pl σ := by unfold lay0; rw [if_pos h]
theorem lay0_n {i k : Nat} {pl : Int32} {σ : St} (h : ¬ layW (s_z σ k) pl = 0) : lay0 i k pl σ = sBeg 2 0 σ := by unfold lay0; rw [if_neg h]
theorem wLay_o {kd : Nat} {z pl : Int32} (h5 : ¬ kd = 5) (h6 : ¬ kd = 6) : wLay kd z pl = layW z pl := by unfold wLay; rw [if_neg h5, if_neg h6]
theorem wLay_6 {z pl : Int32} : wLay 6 z pl = layW z (pl / 2) := rfl
theorem wLay_5p {z pl : Int32} (h : layW z pl = 0) : wLay 5 z pl = layW z (pl + 1) := by unfold wLay; rw [if_pos rfl, if_pos h]
theorem wLay_5n {z pl : Int32} (h : ¬ layW z pl = 0) : wLay 5 z pl = layW z pl := by unfold wLay; rw [if_pos rfl, if_neg h]
theorem sLay_o {kd i k : Nat} {pl : Int32} {σ : St} (h5 : ¬ kd = 5) (h6 : ¬ kd = 6) (h7 : ¬ kd = 7) : sLay kd i k pl σ = lay0 i k pl σ := by unfold sLay; rw [if_neg h5, if_neg h6, if_neg h7]
theorem sLay_6 {i k : Nat} {pl : Int32} {σ : St} : sLay 6 i k pl σ = lay0 i k (pl / 2) (sBeg 2 6 σ) := rfl
theorem sLay_7 {i k : Nat} {pl : Int32} {σ : St} : sLay 7 i k pl σ = lay0 i k pl (pF4 i (sBeg 2 7 σ)) := rfl
theorem sLay_5p {i k : Nat} {pl : Int32} {σ : St} (h : layW (s_z σ k) pl = 0) : sLay 5 i k pl σ = lay0 i k (pl + 1) (pL0 i k pl (sBeg 2 5 σ)) := by
  unfold sLay; rw [if_pos rfl, if_pos h, lay0_p (σ := sBeg 2 5 σ) h]
theorem sLay_5n {i k : Nat} {pl : Int32} {σ : St} (h : ¬ layW (s_z σ k) pl = 0) : sLay 5 i k pl σ = sBeg 2 0 (sBeg 2 5 σ) := by
  unfold sLay; rw [if_pos rfl, if_neg h, lay0_n (σ := sBeg 2 5 σ) h]
theorem pLf_eq {σ : St} : pLf σ = missd (sBeg 2 0 σ) := rfl
section WideV
variable {p : Program} {l : Launch} {e : Env} {R : Room} {s : State} {m : MethodId} {args : Array Value} {below : List Frame} {meth : Method} {c : Code} {H : Heap} {locs : List Loc} {cells slots : Nat}
theorem i0 : (0 : Int32) = nI 0 := rfl
end WideV
end
section
set_option maxHeartbeats 4000000 in
set_option maxRecDepth 100000 in
theorem c_X10_within (l : Launch) (D : va_G) (G : Nat → Nat) (Q : Nat → ClassId) (σ : St) (v a b : Int32) : MI l yX10_within cX10_within 3 .boolean ({ frames := 0, cells := 0, slots := 0, locals := 0 }) D cls (tyl Q) [.int v, .int a, .int b] (kw G Q) (kw G Q σ) (fun r u => r = wth v a b ∧ u = σ) 0 0 := by
  refine MI_of (by decide) (Nat.le_of_ble_eq_true rfl) ?_
  intro p e s m args below meth c A ls cx hw hl
  have hl : lv_has ls 3 [(0, .int v), (1, .int a), (2, .int b)] := hl
  refine lv_iload_n cx.x cx.b dX10_within_0 rfl (lv_at hl 0 rfl) ?_
  refine lv_iload_n cx.x cx.b dX10_within_1 rfl (lv_at hl 1 rfl) ?_
  refine lv_icmp_lt (tgt := 14) cx.x cx.b dX10_within_2 (by decide) (fun hb2 => ?_) (fun hb2 => ?_)
  · refine lv_iconst (v := 0) cx.x cx.b dX10_within_14 (by decide) ?_
    exact ret_z σ cx hw rfl ⟨wth_0a (Int32.not_le.mpr hb2), rfl⟩ dX10_within_15 (Nat.le_of_ble_eq_true rfl) (Nat.le_of_ble_eq_true rfl)
  · refine lv_iload_n cx.x cx.b dX10_within_5 rfl (lv_at hl 0 rfl) ?_
    refine lv_iload_n cx.x cx.b dX10_within_6 rfl (lv_at hl 2 rfl) ?_
    refine lv_icmp_gt (tgt := 14) cx.x cx.b dX10_within_7 (by decide) (fun hb7 => ?_) (fun hb7 => ?_)
    · refine lv_iconst (v := 0) cx.x cx.b dX10_within_14 (by decide) ?_
      exact ret_z σ cx hw rfl ⟨wth_0b (Int32.not_le.mpr hb7), rfl⟩ dX10_within_15 (Nat.le_of_ble_eq_true rfl) (Nat.le_of_ble_eq_true rfl)
    · refine lv_iconst (v := 1) cx.x cx.b dX10_within_10 (by decide) ?_
      refine lv_goto (tgt := 15) cx.x cx.b dX10_within_11 (by decide) ?_
      exact ret_z σ cx hw rfl ⟨wth_1 (Int32.not_lt.mp hb2) (Int32.not_lt.mp hb7), rfl⟩ dX10_within_15 (Nat.le_of_ble_eq_true rfl) (Nat.le_of_ble_eq_true rfl)
set_option maxHeartbeats 4000000 in
set_option maxRecDepth 100000 in
theorem c_findLoaf_s (l : Launch) (D : va_G) (G : Nat → Nat) (Q : Nat → ClassId) (σ : St) (hN : s_n σ ≤ 20) (i : Nat) (hi : i < s_n σ) : MR l yX10_findLoaf cX10_findLoaf 2 (.object "BakeHouse$Dough") ({ frames := 1, cells := 0, slots := 0, locals := 22 }) D cls (tyl Q) [.ref (G 0), .int (nI i)] (kw G Q) (kw G Q σ) (fun r u => r = some (s_a σ i) ∧ u = σ) 0 0 := by
  refine MR_of (by decide) (Nat.le_of_ble_eq_true rfl) ?_
  intro p e s m args below meth c A ls cx hw hl
  have hl : lv_has ls 2 [(0, .ref (G 0)), (1, .int (nI i))] := hl
  refine lv_iload_n cx.x cx.b dX10_findLoaf_0 rfl (lv_at hl 1 rfl) ?_
  refine lv_iconst (v := 0) cx.x cx.b dX10_findLoaf_1 (by decide) ?_
  refine lv_bipush (v := 19) cx.x cx.b dX10_findLoaf_2 (by decide) ?_
  refine cgo_i cx hw (rS_i (n := 3) (As := [.int (nI i), .int 0, .int 19]) (rest := []) cx hw (c_X10_within l D G Q σ (nI i) 0 19) (gd_S tw_102 tw_103 tw_1 tw_104) ⟨by decide +kernel, rfl, hl.1, (Nat.le_of_ble_eq_true rfl), ⟨(Nat.le_of_ble_eq_true rfl), (Nat.le_of_ble_eq_true rfl)⟩, ⟨(Nat.le_of_ble_eq_true rfl), (Nat.le_of_ble_eq_true rfl)⟩, rfl, rfl⟩ rfl dX10_findLoaf_4) (fun r u H locs hp hw => ?_)
  obtain ⟨h8, h9⟩ := hp
  have h8 := h8.symm
  have h9 := h9.symm
  subst h8
  subst h9
  refine lv_if_eq (tgt := 19) cx.x cx.b dX10_findLoaf_7 (by decide) (fun hb7 => absurd hb7 (wth_nI (a := 0) (b := 19) (Nat.zero_le _) (by omega) (by decide))) (fun hb7 => ?_)
  refine lv_aload_n cx.x cx.b dX10_findLoaf_10 rfl (lv_at hl 0 rfl) ?_
  refine gt_f (v := .ref (G 4)) cx hw 0 (kw_h σ) rfl inX10 2 (by decide) tw_87 ⟨rfl, rfl, Or.inl rfl⟩ rfl dX10_findLoaf_11 ?_
  refine lv_iload_n cx.x cx.b dX10_findLoaf_14 rfl (lv_at hl 1 rfl) ?_
  refine ald_r (v := .ref (s_a σ i)) cx hw 4 2 rfl rfl i rfl (by omega) (by decide) dX10_findLoaf_15 (by rw [if_pos hi]; rfl) ?_
  refine lv_goto (tgt := 20) cx.x cx.b dX10_findLoaf_16 (by decide) ?_
  exact ret_r (r := some (s_a σ i)) σ cx hw ⟨rfl, rfl⟩ dX10_findLoaf_20 (Nat.le_of_ble_eq_true rfl) (Nat.le_of_ble_eq_true rfl)
set_option maxHeartbeats 4000000 in
set_option maxRecDepth 100000 in
theorem c_findLoaf_n (l : Launch) (D : va_G) (G : Nat → Nat) (Q : Nat → ClassId) (σ : St) (hN : s_n σ ≤ 20) (lo : Int32) (hi : ¬ vp_in lo (s_n σ)) : MR l yX10_findLoaf cX10_findLoaf 2 (.object "BakeHouse$Dough") ({ frames := 1, cells := 0, slots := 0, locals := 22 }) D cls (tyl Q) [.ref (G 0), .int lo] (kw G Q) (kw G Q σ) (fun r u => r = none ∧ u = σ) 0 0 := by
  refine MR_of (by decide) (Nat.le_of_ble_eq_true rfl) ?_
  intro p e s m args below meth c A ls cx hw hl
  have hl : lv_has ls 2 [(0, .ref (G 0)), (1, .int lo)] := hl
  by_cases h19 : vp_in lo 20
  · obtain ⟨j, hj, rfl⟩ := vp_in_of h19 (by decide)
    have hge : ¬ j < s_n σ := fun h => hi (vp_in_nI h (by omega))
    refine lv_iload_n cx.x cx.b dX10_findLoaf_0 rfl (lv_at hl 1 rfl) ?_
    refine lv_iconst (v := 0) cx.x cx.b dX10_findLoaf_1 (by decide) ?_
    refine lv_bipush (v := 19) cx.x cx.b dX10_findLoaf_2 (by decide) ?_
    refine cgo_i cx hw (rS_i (n := 3) (As := [.int (nI j), .int 0, .int 19]) (rest := []) cx hw (c_X10_within l D G Q σ (nI j) 0 19) (gd_S tw_102 tw_103 tw_1 tw_104) ⟨by decide +kernel, rfl, hl.1, (Nat.le_of_ble_eq_true rfl), ⟨(Nat.le_of_ble_eq_true rfl), (Nat.le_of_ble_eq_true rfl)⟩, ⟨(Nat.le_of_ble_eq_true rfl), (Nat.le_of_ble_eq_true rfl)⟩, rfl, rfl⟩ rfl dX10_findLoaf_4) (fun r u H locs hp hw => ?_)
    obtain ⟨h8, h9⟩ := hp
    have h8 := h8.symm
    have h9 := h9.symm
    subst h8
    subst h9
    refine lv_if_eq (tgt := 19) cx.x cx.b dX10_findLoaf_7 (by decide) (fun hb7 => absurd hb7 (wth_nI (a := 0) (b := 19) (Nat.zero_le _) (by omega) (by decide))) (fun hb7 => ?_)
    refine lv_aload_n cx.x cx.b dX10_findLoaf_10 rfl (lv_at hl 0 rfl) ?_
    refine gt_f (v := .ref (G 4)) cx hw 0 (kw_h σ) rfl inX10 2 (by decide) tw_87 ⟨rfl, rfl, Or.inl rfl⟩ rfl dX10_findLoaf_11 ?_
    refine lv_iload_n cx.x cx.b dX10_findLoaf_14 rfl (lv_at hl 1 rfl) ?_
    refine ald_r (v := .null) cx hw 4 2 rfl rfl j rfl hj (by decide) dX10_findLoaf_15 (by rw [if_neg hge]; rfl) ?_
    refine lv_goto (tgt := 20) cx.x cx.b dX10_findLoaf_16 (by decide) ?_
    exact ret_r (r := none) σ cx hw ⟨rfl, rfl⟩ dX10_findLoaf_20 (Nat.le_of_ble_eq_true rfl) (Nat.le_of_ble_eq_true rfl)
  · refine lv_iload_n cx.x cx.b dX10_findLoaf_0 rfl (lv_at hl 1 rfl) ?_
    refine lv_iconst (v := 0) cx.x cx.b dX10_findLoaf_1 (by decide) ?_
    refine lv_bipush (v := 19) cx.x cx.b dX10_findLoaf_2 (by decide) ?_
    refine cgo_i cx hw (rS_i (n := 3) (As := [.int lo, .int 0, .int 19]) (rest := []) cx hw (c_X10_within l D G Q σ lo 0 19) (gd_S tw_102 tw_103 tw_1 tw_104) ⟨by decide +kernel, rfl, hl.1, (Nat.le_of_ble_eq_true rfl), ⟨(Nat.le_of_ble_eq_true rfl), (Nat.le_of_ble_eq_true rfl)⟩, ⟨(Nat.le_of_ble_eq_true rfl), (Nat.le_of_ble_eq_true rfl)⟩, rfl, rfl⟩ rfl dX10_findLoaf_4) (fun r u H locs hp hw => ?_)
    obtain ⟨h8, h9⟩ := hp
    have h8 := h8.symm
    have h9 := h9.symm
    subst h8
    subst h9
    refine lv_if_eq (tgt := 19) cx.x cx.b dX10_findLoaf_7 (by decide) (fun hb7 => ?_) (fun hb7 => absurd (wth_of (b := 19) (by decide) h19) hb7)
    refine lv_null cx.x cx.b dX10_findLoaf_19 ?_
    exact ret_r (r := none) σ cx hw ⟨rfl, rfl⟩ dX10_findLoaf_20 (Nat.le_of_ble_eq_true rfl) (Nat.le_of_ble_eq_true rfl)
set_option maxHeartbeats 4000000 in
set_option maxRecDepth 100000 in
theorem c_findShelf_s (l : Launch) (D : va_G) (G : Nat → Nat) (Q : Nat → ClassId) (σ : St) (k : Nat) (hk : k < 4) : MR l yX10_findShelf cX10_findShelf 2 (.object "BakeHouse$Shelf") ({ frames := 1, cells := 0, slots := 0, locals := 22 }) D cls (tyl Q) [.ref (G 0), .int (nI k)] (kw G Q) (kw G Q σ) (fun r u => r = some (G (5 + k)) ∧ u = σ) 0 0 := by
  refine MR_of (by decide) (Nat.le_of_ble_eq_true rfl) ?_
  intro p e s m args below meth c A ls cx hw hl
  have hl : lv_has ls 2 [(0, .ref (G 0)), (1, .int (nI k))] := hl
  refine lv_iload_n cx.x cx.b dX10_findShelf_0 rfl (lv_at hl 1 rfl) ?_
  refine lv_iconst (v := 0) cx.x cx.b dX10_findShelf_1 (by decide) ?_
  refine lv_iconst (v := 3) cx.x cx.b dX10_findShelf_2 (by decide) ?_
  refine cgo_i cx hw (rS_i (n := 3) (As := [.int (nI k), .int 0, .int 3]) (rest := []) cx hw (c_X10_within l D G Q σ (nI k) 0 3) (gd_S tw_102 tw_103 tw_1 tw_104) ⟨by decide +kernel, rfl, hl.1, (Nat.le_of_ble_eq_true rfl), ⟨(Nat.le_of_ble_eq_true rfl), (Nat.le_of_ble_eq_true rfl)⟩, ⟨(Nat.le_of_ble_eq_true rfl), (Nat.le_of_ble_eq_true rfl)⟩, rfl, rfl⟩ rfl dX10_findShelf_3) (fun r u H locs hp hw => ?_)
  obtain ⟨h8, h9⟩ := hp
  have h8 := h8.symm
  have h9 := h9.symm
  subst h8
  subst h9
  refine lv_if_eq (tgt := 18) cx.x cx.b dX10_findShelf_6 (by decide) (fun hb6 => absurd hb6 (wth_nI (a := 0) (b := 3) (Nat.zero_le _) (by omega) (by decide))) (fun hb6 => ?_)
  refine lv_aload_n cx.x cx.b dX10_findShelf_9 rfl (lv_at hl 0 rfl) ?_
  refine gt_f (v := .ref (G 3)) cx hw 0 (kw_h σ) rfl inX10 1 (by decide) tw_86 ⟨rfl, rfl, Or.inl rfl⟩ rfl dX10_findShelf_10 ?_
  refine lv_iload_n cx.x cx.b dX10_findShelf_13 rfl (lv_at hl 1 rfl) ?_
  refine ald_r (v := .ref (G (5 + k))) cx hw 3 1 rfl rfl k rfl hk (by decide) dX10_findShelf_14 (by rw [if_pos hk]; rfl) ?_
  refine lv_goto (tgt := 19) cx.x cx.b dX10_findShelf_15 (by decide) ?_
  exact ret_r (r := some (G (5 + k))) σ cx hw ⟨rfl, rfl⟩ dX10_findShelf_19 (Nat.le_of_ble_eq_true rfl) (Nat.le_of_ble_eq_true rfl)
set_option maxHeartbeats 4000000 in
set_option maxRecDepth 100000 in
theorem c_findShelf_n (l : Launch) (D : va_G) (G : Nat → Nat) (Q : Nat → ClassId) (σ : St) (ks : Int32) (hi : ¬ vp_in ks 4) : MR l yX10_findShelf cX10_findShelf 2 (.object "BakeHouse$Shelf") ({ frames := 1, cells := 0, slots := 0, locals := 22 }) D cls (tyl Q) [.ref (G 0), .int ks] (kw G Q) (kw G Q σ) (fun r u => r = none ∧ u = σ) 0 0 := by
  refine MR_of (by decide) (Nat.le_of_ble_eq_true rfl) ?_
  intro p e s m args below meth c A ls cx hw hl
  have hl : lv_has ls 2 [(0, .ref (G 0)), (1, .int ks)] := hl
  refine lv_iload_n cx.x cx.b dX10_findShelf_0 rfl (lv_at hl 1 rfl) ?_
  refine lv_iconst (v := 0) cx.x cx.b dX10_findShelf_1 (by decide) ?_
  refine lv_iconst (v := 3) cx.x cx.b dX10_findShelf_2 (by decide) ?_
  refine cgo_i cx hw (rS_i (n := 3) (As := [.int ks, .int 0, .int 3]) (rest := []) cx hw (c_X10_within l D G Q σ ks 0 3) (gd_S tw_102 tw_103 tw_1 tw_104) ⟨by decide +kernel, rfl, hl.1, (Nat.le_of_ble_eq_true rfl), ⟨(Nat.le_of_ble_eq_true rfl), (Nat.le_of_ble_eq_true rfl)⟩, ⟨(Nat.le_of_ble_eq_true rfl), (Nat.le_of_ble_eq_true rfl)⟩, rfl, rfl⟩ rfl dX10_findShelf_3) (fun r u H locs hp hw => ?_)
  obtain ⟨h8, h9⟩ := hp
  have h8 := h8.symm
  have h9 := h9.symm
  subst h8
  subst h9
  refine lv_if_eq (tgt := 18) cx.x cx.b dX10_findShelf_6 (by decide) (fun hb6 => ?_) (fun hb6 => absurd (wth_of (b := 3) (by decide) hi) hb6)
  refine lv_null cx.x cx.b dX10_findShelf_18 ?_
  exact ret_r (r := none) σ cx hw ⟨rfl, rfl⟩ dX10_findShelf_19 (Nat.le_of_ble_eq_true rfl) (Nat.le_of_ble_eq_true rfl)
set_option maxHeartbeats 4000000 in
set_option maxRecDepth 100000 in
theorem c_X10_isSold (l : Launch) (D : va_G) (G : Nat → Nat) (Q : Nat → ClassId) (σ : St) (i : Nat) (hn : i < s_n σ) (hd : s_k σ i < 8) : MI l yX10_isSold cX10_isSold 1 .boolean ({ frames := 1, cells := 0, slots := 0, locals := 22 }) D cls (tyl Q) [.ref (s_a σ i)] (kw G Q) (kw G Q σ) (fun r u => r = wth (nI (s_k σ i)) 4 7 ∧ u = σ) 0 0 := by
  refine MI_of (by decide) (Nat.le_of_ble_eq_true rfl) ?_
  intro p e s m args below meth c A ls cx hw hl
  have hl : lv_has ls 1 [(0, .ref (s_a σ i))] := hl
  refine lv_aload_n cx.x cx.b dX10_isSold_0 rfl (lv_at hl 0 rfl) ?_
  refine gt_f (v := .int (nI (s_k σ i))) cx hw (13 + i) (kw_d σ hn) (cls_d hd) (inD_all _ hd) 2 (by decide) tw_133 ⟨rfl, rfl, Or.inl rfl⟩ rfl dX10_isSold_1 ?_
  refine lv_iconst (v := 4) cx.x cx.b dX10_isSold_4 (by decide) ?_
  refine lv_bipush (v := 7) cx.x cx.b dX10_isSold_5 (by decide) ?_
  refine cgo_i cx hw (rS_i (n := 3) (As := [.int (nI (s_k σ i)), .int 4, .int 7]) (rest := []) cx hw (c_X10_within l D G Q σ (nI (s_k σ i)) 4 7) (gd_S tw_102 tw_103 tw_1 tw_104) ⟨by decide +kernel, rfl, hl.1, (Nat.le_of_ble_eq_true rfl), ⟨(Nat.le_of_ble_eq_true rfl), (Nat.le_of_ble_eq_true rfl)⟩, ⟨(Nat.le_of_ble_eq_true rfl), (Nat.le_of_ble_eq_true rfl)⟩, rfl, rfl⟩ rfl dX10_isSold_7) (fun r u H locs hp hw => ?_)
  obtain ⟨h8, h9⟩ := hp
  have h8 := h8.symm
  have h9 := h9.symm
  subst h8
  subst h9
  exact ret_z σ cx hw wth_nar ⟨rfl, rfl⟩ dX10_isSold_10 (Nat.le_of_ble_eq_true rfl) (Nat.le_of_ble_eq_true rfl)
set_option maxRecDepth 100000 in
theorem dp_rest {p : Program} {l : Launch} {e : Env} {R : Room} {s : State} {m : MethodId} {args : Array Value} {below : List Frame} {meth : Method} {c : Code} {H : Heap} {locs : List Loc} {cells slots : Nat} {A : Nat → Prop} {D : va_G} {cc : ByteArray} {nL : Nat} {ret : Option FieldType} {pc : Nat} {ls : Array Slot} {G : Nat → Nat} {Q : Nat → ClassId} {σ : St} {i : Nat} (hl0 : l.stackTraces = false) (cx : Fx p s m args meth c A D cls (tyl Q) cc nL "BakeHouse" ret) (hw : Wd D cls A s H locs (kw G Q σ)) (hn : i < s_n σ) (hd : s_k σ i < 8) (mi : Int32) (hR : 16 ≤ R.frames ∧ 600 ≤ R.locals ∧ cells + 1 ≤ R.cells ∧ slots + 6 ≤ R.slots) (hls : ls.size = nL) (hdg : decode cc pc = .ok (.invokevirtual 67, 3)) : RunsXI p l e R s m args below meth c H locs cells slots pc ls [.int mi, .ref (s_a σ i)] [] D cls (kw G Q) (kw G Q σ) (fun r u => ¬ fRest (s_k σ i) i mi σ ∧ r = s_F (rRest (s_k σ i) i mi σ) 4 i ∧ u = rRest (s_k σ i) i mi σ) (fun E u => fRest (s_k σ i) i mi σ ∧ E = "java/lang/IllegalStateException" ∧ u = rRest (s_k σ i) i mi σ) 1 6 := by
  rcases (show s_k σ i = 0 ∨ s_k σ i = 1 ∨ s_k σ i = 2 ∨ s_k σ i = 3 ∨ s_k σ i = 4 ∨ s_k σ i = 5 ∨ s_k σ i = 6 ∨ s_k σ i = 7 by omega) with h9 | h9 | h9 | h9 | h9 | h9 | h9 | h9
  · exact (rU_i (x := ⟨"BakeHouse$Dough", "doRest", "(I)I"⟩) (n := 1) (As := [.int mi]) (rest := []) cx hw (c_X2_doRest l D G Q σ i hn hd mi) (by rw [h9]; exact ⟨tw_398, tw_401, tw_399, tw_400, tw_399, tw_5, tw_506, ⟨_, _, _, tw_506⟩, by decide, rfl⟩) ⟨by decide +kernel, rfl, hls, (Nat.le_of_ble_eq_true rfl), ⟨Nat.le_trans (Nat.le_of_ble_eq_true rfl) hR.1, Nat.le_trans (Nat.le_of_ble_eq_true rfl) hR.2.1⟩, ⟨Nat.le_trans (Nat.add_le_add_left (Nat.le_of_ble_eq_true rfl) _) hR.2.2.1, Nat.le_trans (Nat.add_le_add_left (Nat.le_of_ble_eq_true rfl) _) hR.2.2.2⟩, rfl, rfl⟩ rfl (kw_d σ hn) (cls_d hd) hdg).wide (fun r u h => (by rw [h9]; exact ⟨fun h => absurd h.1 (by decide), h⟩)) (Nat.le_of_ble_eq_true rfl) (Nat.le_of_ble_eq_true rfl)
  · exact (rU_i (x := ⟨"BakeHouse$Dough", "doRest", "(I)I"⟩) (n := 1) (As := [.int mi]) (rest := []) cx hw (c_X2_doRest l D G Q σ i hn hd mi) (by rw [h9]; exact ⟨tw_398, tw_401, tw_399, tw_490, tw_399, tw_5, tw_506, ⟨_, _, _, tw_506⟩, by decide, rfl⟩) ⟨by decide +kernel, rfl, hls, (Nat.le_of_ble_eq_true rfl), ⟨Nat.le_trans (Nat.le_of_ble_eq_true rfl) hR.1, Nat.le_trans (Nat.le_of_ble_eq_true rfl) hR.2.1⟩, ⟨Nat.le_trans (Nat.add_le_add_left (Nat.le_of_ble_eq_true rfl) _) hR.2.2.1, Nat.le_trans (Nat.add_le_add_left (Nat.le_of_ble_eq_true rfl) _) hR.2.2.2⟩, rfl, rfl⟩ rfl (kw_d σ hn) (cls_d hd) hdg).wide (fun r u h => (by rw [h9]; exact ⟨fun h => absurd h.1 (by decide), h⟩)) (Nat.le_of_ble_eq_true rfl) (Nat.le_of_ble_eq_true rfl)
  · exact (rU_i (x := ⟨"BakeHouse$Dough", "doRest", "(I)I"⟩) (n := 1) (As := [.int mi]) (rest := []) cx hw (c_X6_doRest l D G Q σ i hn hd mi) (by rw [h9]; exact ⟨tw_398, tw_401, tw_399, tw_503, tw_499, tw_7, tw_500, ⟨_, _, _, tw_506⟩, by decide, rfl⟩) ⟨by decide +kernel, rfl, hls, (Nat.le_of_ble_eq_true rfl), ⟨Nat.le_trans (Nat.le_of_ble_eq_true rfl) hR.1, Nat.le_trans (Nat.le_of_ble_eq_true rfl) hR.2.1⟩, ⟨Nat.le_trans (Nat.add_le_add_left (Nat.le_of_ble_eq_true rfl) _) hR.2.2.1, Nat.le_trans (Nat.add_le_add_left (Nat.le_of_ble_eq_true rfl) _) hR.2.2.2⟩, rfl, rfl⟩ rfl (kw_d σ hn) (cls_d hd) hdg).wide (fun r u h => (by rw [h9]; exact ⟨fun h => absurd h.1 (by decide), h⟩)) (Nat.le_of_ble_eq_true rfl) (Nat.le_of_ble_eq_true rfl)
  · exact (rU_i (x := ⟨"BakeHouse$Dough", "doRest", "(I)I"⟩) (n := 1) (As := [.int mi]) (rest := []) cx hw (c_X2_doRest l D G Q σ i hn hd mi) (by rw [h9]; exact ⟨tw_398, tw_401, tw_399, tw_505, tw_399, tw_5, tw_506, ⟨_, _, _, tw_506⟩, by decide, rfl⟩) ⟨by decide +kernel, rfl, hls, (Nat.le_of_ble_eq_true rfl), ⟨Nat.le_trans (Nat.le_of_ble_eq_true rfl) hR.1, Nat.le_trans (Nat.le_of_ble_eq_true rfl) hR.2.1⟩, ⟨Nat.le_trans (Nat.add_le_add_left (Nat.le_of_ble_eq_true rfl) _) hR.2.2.1, Nat.le_trans (Nat.add_le_add_left (Nat.le_of_ble_eq_true rfl) _) hR.2.2.2⟩, rfl, rfl⟩ rfl (kw_d σ hn) (cls_d hd) hdg).wide (fun r u h => (by rw [h9]; exact ⟨fun h => absurd h.1 (by decide), h⟩)) (Nat.le_of_ble_eq_true rfl) (Nat.le_of_ble_eq_true rfl)
  · exact (rU_i (x := ⟨"BakeHouse$Dough", "doRest", "(I)I"⟩) (n := 1) (As := [.int mi]) (rest := []) cx hw (c_X8_doRest l D G Q σ i hn hd mi) (by rw [h9]; exact ⟨tw_398, tw_401, tw_399, tw_504, tw_496, tw_9, tw_497, ⟨_, _, _, tw_506⟩, by decide, rfl⟩) ⟨by decide +kernel, rfl, hls, (Nat.le_of_ble_eq_true rfl), ⟨Nat.le_trans (Nat.le_of_ble_eq_true rfl) hR.1, Nat.le_trans (Nat.le_of_ble_eq_true rfl) hR.2.1⟩, ⟨Nat.le_trans (Nat.add_le_add_left (Nat.le_of_ble_eq_true rfl) _) hR.2.2.1, Nat.le_trans (Nat.add_le_add_left (Nat.le_of_ble_eq_true rfl) _) hR.2.2.2⟩, rfl, rfl⟩ rfl (kw_d σ hn) (cls_d hd) hdg).wide (fun r u h => (by rw [h9]; exact ⟨fun h => absurd h.1 (by decide), h⟩)) (Nat.le_of_ble_eq_true rfl) (Nat.le_of_ble_eq_true rfl)
  · exact (rU_xi (x := ⟨"BakeHouse$Dough", "doRest", "(I)I"⟩) (n := 1) (As := [.int mi]) (rest := []) cx hw (c_X1_doRest l hl0 D G Q σ i hn hd mi) (by rw [h9]; exact ⟨tw_398, tw_401, tw_399, tw_402, tw_403, tw_10, tw_404, ⟨_, _, _, tw_506⟩, by decide, rfl⟩) ⟨by decide +kernel, rfl, hls, (Nat.le_of_ble_eq_true rfl), ⟨Nat.le_trans (Nat.le_of_ble_eq_true rfl) hR.1, Nat.le_trans (Nat.le_of_ble_eq_true rfl) hR.2.1⟩, ⟨Nat.le_trans (Nat.add_le_add_left (Nat.le_of_ble_eq_true rfl) _) hR.2.2.1, Nat.le_trans (Nat.add_le_add_left (Nat.le_of_ble_eq_true rfl) _) hR.2.2.2⟩, rfl, rfl⟩ rfl (kw_d σ hn) (cls_d hd) hdg).wide (fun r u h => (by rw [h9]; obtain ⟨g1, g2, g3⟩ := h; have e : rRest 5 i mi σ = pR5a i mi σ := if_neg g1; rw [e]; exact ⟨fun h => g1 h.2, g2, g3⟩)) (fun E u h => (by rw [h9]; obtain ⟨g1, g2, g3⟩ := h; have e : rRest 5 i mi σ = pR5f i mi σ := if_pos g1; rw [e]; exact ⟨⟨rfl, g1⟩, g2, g3⟩)) (Nat.le_of_ble_eq_true rfl) (Nat.le_of_ble_eq_true rfl)
  · exact (rU_i (x := ⟨"BakeHouse$Dough", "doRest", "(I)I"⟩) (n := 1) (As := [.int mi]) (rest := []) cx hw (c_X2_doRest l D G Q σ i hn hd mi) (by rw [h9]; exact ⟨tw_398, tw_401, tw_399, tw_489, tw_399, tw_5, tw_506, ⟨_, _, _, tw_506⟩, by decide, rfl⟩) ⟨by decide +kernel, rfl, hls, (Nat.le_of_ble_eq_true rfl), ⟨Nat.le_trans (Nat.le_of_ble_eq_true rfl) hR.1, Nat.le_trans (Nat.le_of_ble_eq_true rfl) hR.2.1⟩, ⟨Nat.le_trans (Nat.add_le_add_left (Nat.le_of_ble_eq_true rfl) _) hR.2.2.1, Nat.le_trans (Nat.add_le_add_left (Nat.le_of_ble_eq_true rfl) _) hR.2.2.2⟩, rfl, rfl⟩ rfl (kw_d σ hn) (cls_d hd) hdg).wide (fun r u h => (by rw [h9]; exact ⟨fun h => absurd h.1 (by decide), h⟩)) (Nat.le_of_ble_eq_true rfl) (Nat.le_of_ble_eq_true rfl)
  · exact (rU_i (x := ⟨"BakeHouse$Dough", "doRest", "(I)I"⟩) (n := 1) (As := [.int mi]) (rest := []) cx hw (c_X5_doRest l D G Q σ i hn hd mi) (by rw [h9]; exact ⟨tw_398, tw_401, tw_399, tw_491, tw_492, tw_12, tw_493, ⟨_, _, _, tw_506⟩, by decide, rfl⟩) ⟨by decide +kernel, rfl, hls, (Nat.le_of_ble_eq_true rfl), ⟨Nat.le_trans (Nat.le_of_ble_eq_true rfl) hR.1, Nat.le_trans (Nat.le_of_ble_eq_true rfl) hR.2.1⟩, ⟨Nat.le_trans (Nat.add_le_add_left (Nat.le_of_ble_eq_true rfl) _) hR.2.2.1, Nat.le_trans (Nat.add_le_add_left (Nat.le_of_ble_eq_true rfl) _) hR.2.2.2⟩, rfl, rfl⟩ rfl (kw_d σ hn) (cls_d hd) hdg).wide (fun r u h => (by rw [h9]; exact ⟨fun h => absurd h.1 (by decide), h⟩)) (Nat.le_of_ble_eq_true rfl) (Nat.le_of_ble_eq_true rfl)
set_option maxRecDepth 100000 in
theorem dp_fold {p : Program} {l : Launch} {e : Env} {R : Room} {s : State} {m : MethodId} {args : Array Value} {below : List Frame} {meth : Method} {c : Code} {H : Heap} {locs : List Loc} {cells slots : Nat} {A : Nat → Prop} {D : va_G} {cc : ByteArray} {nL : Nat} {ret : Option FieldType} {pc : Nat} {ls : Array Slot} {G : Nat → Nat} {Q : Nat → ClassId} {σ : St} {i : Nat} (cx : Fx p s m args meth c A D cls (tyl Q) cc nL "BakeHouse" ret) (hw : Wd D cls A s H locs (kw G Q σ)) (hn : i < s_n σ) (hd : s_k σ i < 8) (ac : Nat) (hac : s_F σ 6 i = nI ac) (hab : ac < 2 ^ 30) (hR : 16 ≤ R.frames ∧ 600 ≤ R.locals ∧ cells + 0 ≤ R.cells ∧ slots + 0 ≤ R.slots) (hls : ls.size = nL) (hdg : decode cc pc = .ok (.invokevirtual 71, 3)) : RunsV p l e R s m args below meth c H locs cells slots pc ls [.ref (s_a σ i)] [] D cls (kw G Q) (kw G Q σ) (fun u => u = rFold (s_k σ i) i σ) 0 0 := by
  rcases (show s_k σ i = 0 ∨ s_k σ i = 1 ∨ s_k σ i = 2 ∨ s_k σ i = 3 ∨ s_k σ i = 4 ∨ s_k σ i = 5 ∨ s_k σ i = 6 ∨ s_k σ i = 7 by omega) with h9 | h9 | h9 | h9 | h9 | h9 | h9 | h9
  · exact (rU_v (x := ⟨"BakeHouse$Dough", "doFold", "()V"⟩) (n := 0) (As := []) (rest := []) cx hw (c_X2_doFold l D G Q σ i hn hd ) (by rw [h9]; exact ⟨tw_298, tw_301, tw_299, tw_300, tw_299, tw_5, tw_329, ⟨_, _, _, tw_329⟩, by decide, rfl⟩) ⟨by decide +kernel, rfl, hls, (Nat.le_of_ble_eq_true rfl), ⟨Nat.le_trans (Nat.le_of_ble_eq_true rfl) hR.1, Nat.le_trans (Nat.le_of_ble_eq_true rfl) hR.2.1⟩, ⟨Nat.le_trans (Nat.add_le_add_left (Nat.le_of_ble_eq_true rfl) _) hR.2.2.1, Nat.le_trans (Nat.add_le_add_left (Nat.le_of_ble_eq_true rfl) _) hR.2.2.2⟩, rfl, rfl⟩ rfl (kw_d σ hn) (cls_d hd) hdg).wideV (fun u h => (by rw [h9]; exact h)) (Nat.le_of_ble_eq_true rfl) (Nat.le_of_ble_eq_true rfl)
  · exact (rU_v (x := ⟨"BakeHouse$Dough", "doFold", "()V"⟩) (n := 0) (As := []) (rest := []) cx hw (c_X2_doFold l D G Q σ i hn hd ) (by rw [h9]; exact ⟨tw_298, tw_301, tw_299, tw_316, tw_299, tw_5, tw_329, ⟨_, _, _, tw_329⟩, by decide, rfl⟩) ⟨by decide +kernel, rfl, hls, (Nat.le_of_ble_eq_true rfl), ⟨Nat.le_trans (Nat.le_of_ble_eq_true rfl) hR.1, Nat.le_trans (Nat.le_of_ble_eq_true rfl) hR.2.1⟩, ⟨Nat.le_trans (Nat.add_le_add_left (Nat.le_of_ble_eq_true rfl) _) hR.2.2.1, Nat.le_trans (Nat.add_le_add_left (Nat.le_of_ble_eq_true rfl) _) hR.2.2.2⟩, rfl, rfl⟩ rfl (kw_d σ hn) (cls_d hd) hdg).wideV (fun u h => (by rw [h9]; exact h)) (Nat.le_of_ble_eq_true rfl) (Nat.le_of_ble_eq_true rfl)
  · exact (rU_v (x := ⟨"BakeHouse$Dough", "doFold", "()V"⟩) (n := 0) (As := []) (rest := []) cx hw (c_X2_doFold l D G Q σ i hn hd ) (by rw [h9]; exact ⟨tw_298, tw_301, tw_299, tw_326, tw_299, tw_5, tw_329, ⟨_, _, _, tw_329⟩, by decide, rfl⟩) ⟨by decide +kernel, rfl, hls, (Nat.le_of_ble_eq_true rfl), ⟨Nat.le_trans (Nat.le_of_ble_eq_true rfl) hR.1, Nat.le_trans (Nat.le_of_ble_eq_true rfl) hR.2.1⟩, ⟨Nat.le_trans (Nat.add_le_add_left (Nat.le_of_ble_eq_true rfl) _) hR.2.2.1, Nat.le_trans (Nat.add_le_add_left (Nat.le_of_ble_eq_true rfl) _) hR.2.2.2⟩, rfl, rfl⟩ rfl (kw_d σ hn) (cls_d hd) hdg).wideV (fun u h => (by rw [h9]; exact h)) (Nat.le_of_ble_eq_true rfl) (Nat.le_of_ble_eq_true rfl)
  · exact (rU_v (x := ⟨"BakeHouse$Dough", "doFold", "()V"⟩) (n := 0) (As := []) (rest := []) cx hw (c_X9_doFold l D G Q σ i hn hd ) (by rw [h9]; exact ⟨tw_298, tw_301, tw_299, tw_328, tw_303, tw_8, tw_304, ⟨_, _, _, tw_329⟩, by decide, rfl⟩) ⟨by decide +kernel, rfl, hls, (Nat.le_of_ble_eq_true rfl), ⟨Nat.le_trans (Nat.le_of_ble_eq_true rfl) hR.1, Nat.le_trans (Nat.le_of_ble_eq_true rfl) hR.2.1⟩, ⟨Nat.le_trans (Nat.add_le_add_left (Nat.le_of_ble_eq_true rfl) _) hR.2.2.1, Nat.le_trans (Nat.add_le_add_left (Nat.le_of_ble_eq_true rfl) _) hR.2.2.2⟩, rfl, rfl⟩ rfl (kw_d σ hn) (cls_d hd) hdg).wideV (fun u h => (by rw [h9]; exact h)) (Nat.le_of_ble_eq_true rfl) (Nat.le_of_ble_eq_true rfl)
  · exact (rU_v (x := ⟨"BakeHouse$Dough", "doFold", "()V"⟩) (n := 0) (As := []) (rest := []) cx hw (c_X8_doFold l D G Q σ i hn hd ac hac hab) (by rw [h9]; exact ⟨tw_298, tw_301, tw_299, tw_327, tw_318, tw_9, tw_319, ⟨_, _, _, tw_329⟩, by decide, rfl⟩) ⟨by decide +kernel, rfl, hls, (Nat.le_of_ble_eq_true rfl), ⟨Nat.le_trans (Nat.le_of_ble_eq_true rfl) hR.1, Nat.le_trans (Nat.le_of_ble_eq_true rfl) hR.2.1⟩, ⟨Nat.le_trans (Nat.add_le_add_left (Nat.le_of_ble_eq_true rfl) _) hR.2.2.1, Nat.le_trans (Nat.add_le_add_left (Nat.le_of_ble_eq_true rfl) _) hR.2.2.2⟩, rfl, rfl⟩ rfl (kw_d σ hn) (cls_d hd) hdg).wideV (fun u h => (by rw [h9]; exact h)) (Nat.le_of_ble_eq_true rfl) (Nat.le_of_ble_eq_true rfl)
  · exact (rU_v (x := ⟨"BakeHouse$Dough", "doFold", "()V"⟩) (n := 0) (As := []) (rest := []) cx hw (c_X9_doFold l D G Q σ i hn hd ) (by rw [h9]; exact ⟨tw_298, tw_301, tw_299, tw_302, tw_303, tw_8, tw_304, ⟨_, _, _, tw_329⟩, by decide, rfl⟩) ⟨by decide +kernel, rfl, hls, (Nat.le_of_ble_eq_true rfl), ⟨Nat.le_trans (Nat.le_of_ble_eq_true rfl) hR.1, Nat.le_trans (Nat.le_of_ble_eq_true rfl) hR.2.1⟩, ⟨Nat.le_trans (Nat.add_le_add_left (Nat.le_of_ble_eq_true rfl) _) hR.2.2.1, Nat.le_trans (Nat.add_le_add_left (Nat.le_of_ble_eq_true rfl) _) hR.2.2.2⟩, rfl, rfl⟩ rfl (kw_d σ hn) (cls_d hd) hdg).wideV (fun u h => (by rw [h9]; exact h)) (Nat.le_of_ble_eq_true rfl) (Nat.le_of_ble_eq_true rfl)
  · exact (rU_v (x := ⟨"BakeHouse$Dough", "doFold", "()V"⟩) (n := 0) (As := []) (rest := []) cx hw (c_X3_doFold l D G Q σ i hn hd ) (by rw [h9]; exact ⟨tw_298, tw_301, tw_299, tw_312, tw_313, tw_11, tw_314, ⟨_, _, _, tw_329⟩, by decide, rfl⟩) ⟨by decide +kernel, rfl, hls, (Nat.le_of_ble_eq_true rfl), ⟨Nat.le_trans (Nat.le_of_ble_eq_true rfl) hR.1, Nat.le_trans (Nat.le_of_ble_eq_true rfl) hR.2.1⟩, ⟨Nat.le_trans (Nat.add_le_add_left (Nat.le_of_ble_eq_true rfl) _) hR.2.2.1, Nat.le_trans (Nat.add_le_add_left (Nat.le_of_ble_eq_true rfl) _) hR.2.2.2⟩, rfl, rfl⟩ rfl (kw_d σ hn) (cls_d hd) hdg).wideV (fun u h => (by rw [h9]; exact h)) (Nat.le_of_ble_eq_true rfl) (Nat.le_of_ble_eq_true rfl)
  · exact (rU_v (x := ⟨"BakeHouse$Dough", "doFold", "()V"⟩) (n := 0) (As := []) (rest := []) cx hw (c_X8_doFold l D G Q σ i hn hd ac hac hab) (by rw [h9]; exact ⟨tw_298, tw_301, tw_299, tw_317, tw_318, tw_9, tw_319, ⟨_, _, _, tw_329⟩, by decide, rfl⟩) ⟨by decide +kernel, rfl, hls, (Nat.le_of_ble_eq_true rfl), ⟨Nat.le_trans (Nat.le_of_ble_eq_true rfl) hR.1, Nat.le_trans (Nat.le_of_ble_eq_true rfl) hR.2.1⟩, ⟨Nat.le_trans (Nat.add_le_add_left (Nat.le_of_ble_eq_true rfl) _) hR.2.2.1, Nat.le_trans (Nat.add_le_add_left (Nat.le_of_ble_eq_true rfl) _) hR.2.2.2⟩, rfl, rfl⟩ rfl (kw_d σ hn) (cls_d hd) hdg).wideV (fun u h => (by rw [h9]; exact h)) (Nat.le_of_ble_eq_true rfl) (Nat.le_of_ble_eq_true rfl)
set_option maxRecDepth 100000 in
theorem dp_bake {p : Program} {l : Launch} {e : Env} {R : Room} {s : State} {m : MethodId} {args : Array Value} {below : List Frame} {meth : Method} {c : Code} {H : Heap} {locs : List Loc} {cells slots : Nat} {A : Nat → Prop} {D : va_G} {cc : ByteArray} {nL : Nat} {ret : Option FieldType} {pc : Nat} {ls : Array Slot} {G : Nat → Nat} {Q : Nat → ClassId} {σ : St} {i : Nat} (cx : Fx p s m args meth c A D cls (tyl Q) cc nL "BakeHouse" ret) (hw : Wd D cls A s H locs (kw G Q σ)) (hn : i < s_n σ) (hd : s_k σ i < 8) (ht : Int32) (hR : 16 ≤ R.frames ∧ 600 ≤ R.locals ∧ cells + 0 ≤ R.cells ∧ slots + 0 ≤ R.slots) (hls : ls.size = nL) (hdg : decode cc pc = .ok (.invokevirtual 84, 3)) : RunsI p l e R s m args below meth c H locs cells slots pc ls [.int ht, .ref (s_a σ i)] [] D cls (kw G Q) (kw G Q σ) (fun r u => r = vBake (s_k σ i) i ht σ ∧ u = rBake (s_k σ i) i ht σ) 0 0 := by
  rcases (show s_k σ i = 0 ∨ s_k σ i = 1 ∨ s_k σ i = 2 ∨ s_k σ i = 3 ∨ s_k σ i = 4 ∨ s_k σ i = 5 ∨ s_k σ i = 6 ∨ s_k σ i = 7 by omega) with h9 | h9 | h9 | h9 | h9 | h9 | h9 | h9
  · exact (rU_i (x := ⟨"BakeHouse$Dough", "doBake", "(I)Z"⟩) (n := 1) (As := [.int ht]) (rest := []) cx hw (c_X2_doBake l D G Q σ i hn hd ht) (by rw [h9]; exact ⟨tw_335, tw_338, tw_336, tw_337, tw_336, tw_5, tw_361, ⟨_, _, _, tw_361⟩, by decide, rfl⟩) ⟨by decide +kernel, rfl, hls, (Nat.le_of_ble_eq_true rfl), ⟨Nat.le_trans (Nat.le_of_ble_eq_true rfl) hR.1, Nat.le_trans (Nat.le_of_ble_eq_true rfl) hR.2.1⟩, ⟨Nat.le_trans (Nat.add_le_add_left (Nat.le_of_ble_eq_true rfl) _) hR.2.2.1, Nat.le_trans (Nat.add_le_add_left (Nat.le_of_ble_eq_true rfl) _) hR.2.2.2⟩, rfl, rfl⟩ rfl (kw_d σ hn) (cls_d hd) hdg).wideI (fun r u h => (by rw [h9]; exact h)) (Nat.le_of_ble_eq_true rfl) (Nat.le_of_ble_eq_true rfl)
  · exact (rU_i (x := ⟨"BakeHouse$Dough", "doBake", "(I)Z"⟩) (n := 1) (As := [.int ht]) (rest := []) cx hw (c_X2_doBake l D G Q σ i hn hd ht) (by rw [h9]; exact ⟨tw_335, tw_338, tw_336, tw_349, tw_336, tw_5, tw_361, ⟨_, _, _, tw_361⟩, by decide, rfl⟩) ⟨by decide +kernel, rfl, hls, (Nat.le_of_ble_eq_true rfl), ⟨Nat.le_trans (Nat.le_of_ble_eq_true rfl) hR.1, Nat.le_trans (Nat.le_of_ble_eq_true rfl) hR.2.1⟩, ⟨Nat.le_trans (Nat.add_le_add_left (Nat.le_of_ble_eq_true rfl) _) hR.2.2.1, Nat.le_trans (Nat.add_le_add_left (Nat.le_of_ble_eq_true rfl) _) hR.2.2.2⟩, rfl, rfl⟩ rfl (kw_d σ hn) (cls_d hd) hdg).wideI (fun r u h => (by rw [h9]; exact h)) (Nat.le_of_ble_eq_true rfl) (Nat.le_of_ble_eq_true rfl)
  · exact (rU_i (x := ⟨"BakeHouse$Dough", "doBake", "(I)Z"⟩) (n := 1) (As := [.int ht]) (rest := []) cx hw (c_X6_doBake l D G Q σ i hn hd ht) (by rw [h9]; exact ⟨tw_335, tw_338, tw_336, tw_358, tw_354, tw_7, tw_355, ⟨_, _, _, tw_361⟩, by decide, rfl⟩) ⟨by decide +kernel, rfl, hls, (Nat.le_of_ble_eq_true rfl), ⟨Nat.le_trans (Nat.le_of_ble_eq_true rfl) hR.1, Nat.le_trans (Nat.le_of_ble_eq_true rfl) hR.2.1⟩, ⟨Nat.le_trans (Nat.add_le_add_left (Nat.le_of_ble_eq_true rfl) _) hR.2.2.1, Nat.le_trans (Nat.add_le_add_left (Nat.le_of_ble_eq_true rfl) _) hR.2.2.2⟩, rfl, rfl⟩ rfl (kw_d σ hn) (cls_d hd) hdg).wideI (fun r u h => (by rw [h9]; exact h)) (Nat.le_of_ble_eq_true rfl) (Nat.le_of_ble_eq_true rfl)
  · exact (rU_i (x := ⟨"BakeHouse$Dough", "doBake", "(I)Z"⟩) (n := 1) (As := [.int ht]) (rest := []) cx hw (c_X9_doBake l D G Q σ i hn hd ht) (by rw [h9]; exact ⟨tw_335, tw_338, tw_336, tw_360, tw_340, tw_8, tw_341, ⟨_, _, _, tw_361⟩, by decide, rfl⟩) ⟨by decide +kernel, rfl, hls, (Nat.le_of_ble_eq_true rfl), ⟨Nat.le_trans (Nat.le_of_ble_eq_true rfl) hR.1, Nat.le_trans (Nat.le_of_ble_eq_true rfl) hR.2.1⟩, ⟨Nat.le_trans (Nat.add_le_add_left (Nat.le_of_ble_eq_true rfl) _) hR.2.2.1, Nat.le_trans (Nat.add_le_add_left (Nat.le_of_ble_eq_true rfl) _) hR.2.2.2⟩, rfl, rfl⟩ rfl (kw_d σ hn) (cls_d hd) hdg).wideI (fun r u h => (by rw [h9]; exact h)) (Nat.le_of_ble_eq_true rfl) (Nat.le_of_ble_eq_true rfl)
  · exact (rU_i (x := ⟨"BakeHouse$Dough", "doBake", "(I)Z"⟩) (n := 1) (As := [.int ht]) (rest := []) cx hw (c_X8_doBake l D G Q σ i hn hd ht) (by rw [h9]; exact ⟨tw_335, tw_338, tw_336, tw_359, tw_351, tw_9, tw_352, ⟨_, _, _, tw_361⟩, by decide, rfl⟩) ⟨by decide +kernel, rfl, hls, (Nat.le_of_ble_eq_true rfl), ⟨Nat.le_trans (Nat.le_of_ble_eq_true rfl) hR.1, Nat.le_trans (Nat.le_of_ble_eq_true rfl) hR.2.1⟩, ⟨Nat.le_trans (Nat.add_le_add_left (Nat.le_of_ble_eq_true rfl) _) hR.2.2.1, Nat.le_trans (Nat.add_le_add_left (Nat.le_of_ble_eq_true rfl) _) hR.2.2.2⟩, rfl, rfl⟩ rfl (kw_d σ hn) (cls_d hd) hdg).wideI (fun r u h => (by rw [h9]; exact h)) (Nat.le_of_ble_eq_true rfl) (Nat.le_of_ble_eq_true rfl)
  · exact (rU_i (x := ⟨"BakeHouse$Dough", "doBake", "(I)Z"⟩) (n := 1) (As := [.int ht]) (rest := []) cx hw (c_X9_doBake l D G Q σ i hn hd ht) (by rw [h9]; exact ⟨tw_335, tw_338, tw_336, tw_339, tw_340, tw_8, tw_341, ⟨_, _, _, tw_361⟩, by decide, rfl⟩) ⟨by decide +kernel, rfl, hls, (Nat.le_of_ble_eq_true rfl), ⟨Nat.le_trans (Nat.le_of_ble_eq_true rfl) hR.1, Nat.le_trans (Nat.le_of_ble_eq_true rfl) hR.2.1⟩, ⟨Nat.le_trans (Nat.add_le_add_left (Nat.le_of_ble_eq_true rfl) _) hR.2.2.1, Nat.le_trans (Nat.add_le_add_left (Nat.le_of_ble_eq_true rfl) _) hR.2.2.2⟩, rfl, rfl⟩ rfl (kw_d σ hn) (cls_d hd) hdg).wideI (fun r u h => (by rw [h9]; exact h)) (Nat.le_of_ble_eq_true rfl) (Nat.le_of_ble_eq_true rfl)
  · exact (rU_i (x := ⟨"BakeHouse$Dough", "doBake", "(I)Z"⟩) (n := 1) (As := [.int ht]) (rest := []) cx hw (c_X3_doBake l D G Q σ i hn hd ht) (by rw [h9]; exact ⟨tw_335, tw_338, tw_336, tw_345, tw_346, tw_11, tw_347, ⟨_, _, _, tw_361⟩, by decide, rfl⟩) ⟨by decide +kernel, rfl, hls, (Nat.le_of_ble_eq_true rfl), ⟨Nat.le_trans (Nat.le_of_ble_eq_true rfl) hR.1, Nat.le_trans (Nat.le_of_ble_eq_true rfl) hR.2.1⟩, ⟨Nat.le_trans (Nat.add_le_add_left (Nat.le_of_ble_eq_true rfl) _) hR.2.2.1, Nat.le_trans (Nat.add_le_add_left (Nat.le_of_ble_eq_true rfl) _) hR.2.2.2⟩, rfl, rfl⟩ rfl (kw_d σ hn) (cls_d hd) hdg).wideI (fun r u h => (by rw [h9]; exact h)) (Nat.le_of_ble_eq_true rfl) (Nat.le_of_ble_eq_true rfl)
  · exact (rU_i (x := ⟨"BakeHouse$Dough", "doBake", "(I)Z"⟩) (n := 1) (As := [.int ht]) (rest := []) cx hw (c_X8_doBake l D G Q σ i hn hd ht) (by rw [h9]; exact ⟨tw_335, tw_338, tw_336, tw_350, tw_351, tw_9, tw_352, ⟨_, _, _, tw_361⟩, by decide, rfl⟩) ⟨by decide +kernel, rfl, hls, (Nat.le_of_ble_eq_true rfl), ⟨Nat.le_trans (Nat.le_of_ble_eq_true rfl) hR.1, Nat.le_trans (Nat.le_of_ble_eq_true rfl) hR.2.1⟩, ⟨Nat.le_trans (Nat.add_le_add_left (Nat.le_of_ble_eq_true rfl) _) hR.2.2.1, Nat.le_trans (Nat.add_le_add_left (Nat.le_of_ble_eq_true rfl) _) hR.2.2.2⟩, rfl, rfl⟩ rfl (kw_d σ hn) (cls_d hd) hdg).wideI (fun r u h => (by rw [h9]; exact h)) (Nat.le_of_ble_eq_true rfl) (Nat.le_of_ble_eq_true rfl)
set_option maxRecDepth 100000 in
theorem dp_worth {p : Program} {l : Launch} {e : Env} {R : Room} {s : State} {m : MethodId} {args : Array Value} {below : List Frame} {meth : Method} {c : Code} {H : Heap} {locs : List Loc} {cells slots : Nat} {A : Nat → Prop} {D : va_G} {cc : ByteArray} {nL : Nat} {ret : Option FieldType} {pc : Nat} {ls : Array Slot} {G : Nat → Nat} {Q : Nat → ClassId} {σ : St} {i : Nat} (hl0 : l.stackTraces = false) (cx : Fx p s m args meth c A D cls (tyl Q) cc nL "BakeHouse" ret) (hw : Wd D cls A s H locs (kw G Q σ)) (hn : i < s_n σ) (hd : s_k σ i < 8)  (hR : 16 ≤ R.frames ∧ 600 ≤ R.locals ∧ cells + 1 ≤ R.cells ∧ slots + 6 ≤ R.slots) (hls : ls.size = nL) (hdg : decode cc pc = .ok (.invokevirtual 88, 3)) : RunsXI p l e R s m args below meth c H locs cells slots pc ls [.ref (s_a σ i)] [] D cls (kw G Q) (kw G Q σ) (fun r u => ¬ fWorth (s_k σ i) i σ ∧ r = vWorth (s_k σ i) i σ ∧ u = rWorth (s_k σ i) i σ) (fun E u => fWorth (s_k σ i) i σ ∧ E = "java/lang/ArithmeticException" ∧ u = rWorth (s_k σ i) i σ) 1 6 := by
  rcases (show s_k σ i = 0 ∨ s_k σ i = 1 ∨ s_k σ i = 2 ∨ s_k σ i = 3 ∨ s_k σ i = 4 ∨ s_k σ i = 5 ∨ s_k σ i = 6 ∨ s_k σ i = 7 by omega) with h9 | h9 | h9 | h9 | h9 | h9 | h9 | h9
  · exact (rU_i (x := ⟨"BakeHouse$Dough", "askWorth", "()I"⟩) (n := 0) (As := []) (rest := []) cx hw (c_X2_askWorth l D G Q σ i hn hd ) (by rw [h9]; exact ⟨tw_701, tw_704, tw_702, tw_703, tw_702, tw_5, tw_733, ⟨_, _, _, tw_733⟩, by decide, rfl⟩) ⟨by decide +kernel, rfl, hls, (Nat.le_of_ble_eq_true rfl), ⟨Nat.le_trans (Nat.le_of_ble_eq_true rfl) hR.1, Nat.le_trans (Nat.le_of_ble_eq_true rfl) hR.2.1⟩, ⟨Nat.le_trans (Nat.add_le_add_left (Nat.le_of_ble_eq_true rfl) _) hR.2.2.1, Nat.le_trans (Nat.add_le_add_left (Nat.le_of_ble_eq_true rfl) _) hR.2.2.2⟩, rfl, rfl⟩ rfl (kw_d σ hn) (cls_d hd) hdg).wide (fun r u h => (by rw [h9]; exact ⟨fun h => absurd h.1 (by decide), h⟩)) (Nat.le_of_ble_eq_true rfl) (Nat.le_of_ble_eq_true rfl)
  · exact (rU_i (x := ⟨"BakeHouse$Dough", "askWorth", "()I"⟩) (n := 0) (As := []) (rest := []) cx hw (c_X2_askWorth l D G Q σ i hn hd ) (by rw [h9]; exact ⟨tw_701, tw_704, tw_702, tw_717, tw_702, tw_5, tw_733, ⟨_, _, _, tw_733⟩, by decide, rfl⟩) ⟨by decide +kernel, rfl, hls, (Nat.le_of_ble_eq_true rfl), ⟨Nat.le_trans (Nat.le_of_ble_eq_true rfl) hR.1, Nat.le_trans (Nat.le_of_ble_eq_true rfl) hR.2.1⟩, ⟨Nat.le_trans (Nat.add_le_add_left (Nat.le_of_ble_eq_true rfl) _) hR.2.2.1, Nat.le_trans (Nat.add_le_add_left (Nat.le_of_ble_eq_true rfl) _) hR.2.2.2⟩, rfl, rfl⟩ rfl (kw_d σ hn) (cls_d hd) hdg).wide (fun r u h => (by rw [h9]; exact ⟨fun h => absurd h.1 (by decide), h⟩)) (Nat.le_of_ble_eq_true rfl) (Nat.le_of_ble_eq_true rfl)
  · exact (rU_i (x := ⟨"BakeHouse$Dough", "askWorth", "()I"⟩) (n := 0) (As := []) (rest := []) cx hw (c_X2_askWorth l D G Q σ i hn hd ) (by rw [h9]; exact ⟨tw_701, tw_704, tw_702, tw_730, tw_702, tw_5, tw_733, ⟨_, _, _, tw_733⟩, by decide, rfl⟩) ⟨by decide +kernel, rfl, hls, (Nat.le_of_ble_eq_true rfl), ⟨Nat.le_trans (Nat.le_of_ble_eq_true rfl) hR.1, Nat.le_trans (Nat.le_of_ble_eq_true rfl) hR.2.1⟩, ⟨Nat.le_trans (Nat.add_le_add_left (Nat.le_of_ble_eq_true rfl) _) hR.2.2.1, Nat.le_trans (Nat.add_le_add_left (Nat.le_of_ble_eq_true rfl) _) hR.2.2.2⟩, rfl, rfl⟩ rfl (kw_d σ hn) (cls_d hd) hdg).wide (fun r u h => (by rw [h9]; exact ⟨fun h => absurd h.1 (by decide), h⟩)) (Nat.le_of_ble_eq_true rfl) (Nat.le_of_ble_eq_true rfl)
  · exact (rU_i (x := ⟨"BakeHouse$Dough", "askWorth", "()I"⟩) (n := 0) (As := []) (rest := []) cx hw (c_X2_askWorth l D G Q σ i hn hd ) (by rw [h9]; exact ⟨tw_701, tw_704, tw_702, tw_732, tw_702, tw_5, tw_733, ⟨_, _, _, tw_733⟩, by decide, rfl⟩) ⟨by decide +kernel, rfl, hls, (Nat.le_of_ble_eq_true rfl), ⟨Nat.le_trans (Nat.le_of_ble_eq_true rfl) hR.1, Nat.le_trans (Nat.le_of_ble_eq_true rfl) hR.2.1⟩, ⟨Nat.le_trans (Nat.add_le_add_left (Nat.le_of_ble_eq_true rfl) _) hR.2.2.1, Nat.le_trans (Nat.add_le_add_left (Nat.le_of_ble_eq_true rfl) _) hR.2.2.2⟩, rfl, rfl⟩ rfl (kw_d σ hn) (cls_d hd) hdg).wide (fun r u h => (by rw [h9]; exact ⟨fun h => absurd h.1 (by decide), h⟩)) (Nat.le_of_ble_eq_true rfl) (Nat.le_of_ble_eq_true rfl)
  · exact (rU_i (x := ⟨"BakeHouse$Dough", "askWorth", "()I"⟩) (n := 0) (As := []) (rest := []) cx hw (c_X8_askWorth l D G Q σ i hn hd ) (by rw [h9]; exact ⟨tw_701, tw_704, tw_702, tw_731, tw_726, tw_9, tw_727, ⟨_, _, _, tw_733⟩, by decide, rfl⟩) ⟨by decide +kernel, rfl, hls, (Nat.le_of_ble_eq_true rfl), ⟨Nat.le_trans (Nat.le_of_ble_eq_true rfl) hR.1, Nat.le_trans (Nat.le_of_ble_eq_true rfl) hR.2.1⟩, ⟨Nat.le_trans (Nat.add_le_add_left (Nat.le_of_ble_eq_true rfl) _) hR.2.2.1, Nat.le_trans (Nat.add_le_add_left (Nat.le_of_ble_eq_true rfl) _) hR.2.2.2⟩, rfl, rfl⟩ rfl (kw_d σ hn) (cls_d hd) hdg).wide (fun r u h => (by rw [h9]; exact ⟨fun h => absurd h.1 (by decide), h⟩)) (Nat.le_of_ble_eq_true rfl) (Nat.le_of_ble_eq_true rfl)
  · exact (rU_i (x := ⟨"BakeHouse$Dough", "askWorth", "()I"⟩) (n := 0) (As := []) (rest := []) cx hw (c_X1_askWorth l D G Q σ i hn hd ) (by rw [h9]; exact ⟨tw_701, tw_704, tw_702, tw_705, tw_706, tw_10, tw_707, ⟨_, _, _, tw_733⟩, by decide, rfl⟩) ⟨by decide +kernel, rfl, hls, (Nat.le_of_ble_eq_true rfl), ⟨Nat.le_trans (Nat.le_of_ble_eq_true rfl) hR.1, Nat.le_trans (Nat.le_of_ble_eq_true rfl) hR.2.1⟩, ⟨Nat.le_trans (Nat.add_le_add_left (Nat.le_of_ble_eq_true rfl) _) hR.2.2.1, Nat.le_trans (Nat.add_le_add_left (Nat.le_of_ble_eq_true rfl) _) hR.2.2.2⟩, rfl, rfl⟩ rfl (kw_d σ hn) (cls_d hd) hdg).wide (fun r u h => (by rw [h9]; exact ⟨fun h => absurd h.1 (by decide), h⟩)) (Nat.le_of_ble_eq_true rfl) (Nat.le_of_ble_eq_true rfl)
  · exact (rU_xi (x := ⟨"BakeHouse$Dough", "askWorth", "()I"⟩) (n := 0) (As := []) (rest := []) cx hw (c_X3_askWorth l hl0 D G Q σ i hn hd ) (by rw [h9]; exact ⟨tw_701, tw_704, tw_702, tw_711, tw_712, tw_11, tw_713, ⟨_, _, _, tw_733⟩, by decide, rfl⟩) ⟨by decide +kernel, rfl, hls, (Nat.le_of_ble_eq_true rfl), ⟨Nat.le_trans (Nat.le_of_ble_eq_true rfl) hR.1, Nat.le_trans (Nat.le_of_ble_eq_true rfl) hR.2.1⟩, ⟨Nat.le_trans (Nat.add_le_add_left (Nat.le_of_ble_eq_true rfl) _) hR.2.2.1, Nat.le_trans (Nat.add_le_add_left (Nat.le_of_ble_eq_true rfl) _) hR.2.2.2⟩, rfl, rfl⟩ rfl (kw_d σ hn) (cls_d hd) hdg).wide (fun r u h => (by rw [h9]; obtain ⟨g1, g2, g3⟩ := h; have e : rWorth 6 i σ = sBeg 4 6 σ := if_neg g1; have e2 : vWorth 6 i σ = 1000 / s_F σ 7 i := if_neg g1; rw [e, e2]; exact ⟨fun h => g1 h.2, g2, g3⟩)) (fun E u h => (by rw [h9]; obtain ⟨g1, g2, g3⟩ := h; have e : rWorth 6 i σ = pW6f σ := if_pos g1; rw [e]; exact ⟨⟨rfl, g1⟩, g2, g3⟩)) (Nat.le_of_ble_eq_true rfl) (Nat.le_of_ble_eq_true rfl)
  · exact (rU_i (x := ⟨"BakeHouse$Dough", "askWorth", "()I"⟩) (n := 0) (As := []) (rest := []) cx hw (c_X5_askWorth l D G Q σ i hn hd h9) (by rw [h9]; exact ⟨tw_701, tw_704, tw_702, tw_718, tw_719, tw_12, tw_720, ⟨_, _, _, tw_733⟩, by decide, rfl⟩) ⟨by decide +kernel, rfl, hls, (Nat.le_of_ble_eq_true rfl), ⟨Nat.le_trans (Nat.le_of_ble_eq_true rfl) hR.1, Nat.le_trans (Nat.le_of_ble_eq_true rfl) hR.2.1⟩, ⟨Nat.le_trans (Nat.add_le_add_left (Nat.le_of_ble_eq_true rfl) _) hR.2.2.1, Nat.le_trans (Nat.add_le_add_left (Nat.le_of_ble_eq_true rfl) _) hR.2.2.2⟩, rfl, rfl⟩ rfl (kw_d σ hn) (cls_d hd) hdg).wide (fun r u h => (by rw [h9]; exact ⟨fun h => absurd h.1 (by decide), h⟩)) (Nat.le_of_ble_eq_true rfl) (Nat.le_of_ble_eq_true rfl)
set_option maxRecDepth 100000 in
theorem dp_lay {p : Program} {l : Launch} {e : Env} {R : Room} {s : State} {m : MethodId} {args : Array Value} {below : List Frame} {meth : Method} {c : Code} {H : Heap} {locs : List Loc} {cells slots : Nat} {A : Nat → Prop} {D : va_G} {cc : ByteArray} {nL : Nat} {ret : Option FieldType} {pc : Nat} {ls : Array Slot} {G : Nat → Nat} {Q : Nat → ClassId} {σ : St} {i : Nat} (hl0 : l.stackTraces = false) (cx : Fx p s m args meth c A D cls (tyl Q) cc nL "BakeHouse" ret) (hw : Wd D cls A s H locs (kw G Q σ)) (hn : i < s_n σ) (hd : s_k σ i < 8) {k : Nat} (hk : k < 4) (pl : Int32) (ac : Nat) (hac : s_F σ 6 i = nI ac) (hab : ac < 2 ^ 30) (hR : 16 ≤ R.frames ∧ 600 ≤ R.locals ∧ cells + 2 ≤ R.cells ∧ slots + 16 ≤ R.slots) (hls : ls.size = nL) (hdg : decode cc pc = .ok (.invokevirtual 77, 3)) : RunsXV p l e R s m args below meth c H locs cells slots pc ls [.int pl, .ref (G (5 + k)), .ref (s_a σ i)] [] D cls (kw G Q) (kw G Q σ) (fun u => wLay (s_k σ i) (s_z σ k) pl = 0 ∧ u = sLay (s_k σ i) i k pl σ) (fun E u => ecode (wLay (s_k σ i) (s_z σ k) pl) E ∧ u = missd (sLay (s_k σ i) i k pl σ)) 2 16 := by
  rcases (show s_k σ i = 0 ∨ s_k σ i = 1 ∨ s_k σ i = 2 ∨ s_k σ i = 3 ∨ s_k σ i = 4 ∨ s_k σ i = 5 ∨ s_k σ i = 6 ∨ s_k σ i = 7 by omega) with h9 | h9 | h9 | h9 | h9 | h9 | h9 | h9
  · exact (rU_xv (x := ⟨"BakeHouse$Dough", "doLay", "(LBakeHouse$Shelf;I)V"⟩) (n := 2) (As := [.ref (G (5 + k)), .int pl]) (rest := []) cx hw (c_X2_doLay l hl0 D G Q σ i hn hd k hk pl) (by rw [h9]; exact ⟨tw_628, tw_631, tw_629, tw_630, tw_629, tw_5, tw_655, ⟨_, _, _, tw_655⟩, by decide, rfl⟩) ⟨by decide +kernel, rfl, hls, (Nat.le_of_ble_eq_true rfl), ⟨Nat.le_trans (Nat.le_of_ble_eq_true rfl) hR.1, Nat.le_trans (Nat.le_of_ble_eq_true rfl) hR.2.1⟩, ⟨Nat.le_trans (Nat.add_le_add_left (Nat.le_of_ble_eq_true rfl) _) hR.2.2.1, Nat.le_trans (Nat.add_le_add_left (Nat.le_of_ble_eq_true rfl) _) hR.2.2.2⟩, rfl, rfl⟩ rfl (kw_d σ hn) (cls_d hd) hdg).wide (fun u h => (by rw [h9, wLay_o (by decide) (by decide), sLay_o (by decide) (by decide) (by decide)]; obtain ⟨g1, g2, g3⟩ := h; have e := layW_0 g1 g2; exact ⟨e, by rw [g3, lay0_p (σ := σ) e]⟩)) (fun E u h => (by rw [h9, wLay_o (by decide) (by decide), sLay_o (by decide) (by decide) (by decide)]; obtain ⟨g1, g2⟩ := h; have e := layE_n g1; exact ⟨layE_1 g1, by rw [g2, lay0_n (σ := σ) e, pLf_eq]⟩)) (Nat.le_of_ble_eq_true rfl) (Nat.le_of_ble_eq_true rfl)
  · exact (rU_xv (x := ⟨"BakeHouse$Dough", "doLay", "(LBakeHouse$Shelf;I)V"⟩) (n := 2) (As := [.ref (G (5 + k)), .int pl]) (rest := []) cx hw (c_X2_doLay l hl0 D G Q σ i hn hd k hk pl) (by rw [h9]; exact ⟨tw_628, tw_631, tw_629, tw_642, tw_629, tw_5, tw_655, ⟨_, _, _, tw_655⟩, by decide, rfl⟩) ⟨by decide +kernel, rfl, hls, (Nat.le_of_ble_eq_true rfl), ⟨Nat.le_trans (Nat.le_of_ble_eq_true rfl) hR.1, Nat.le_trans (Nat.le_of_ble_eq_true rfl) hR.2.1⟩, ⟨Nat.le_trans (Nat.add_le_add_left (Nat.le_of_ble_eq_true rfl) _) hR.2.2.1, Nat.le_trans (Nat.add_le_add_left (Nat.le_of_ble_eq_true rfl) _) hR.2.2.2⟩, rfl, rfl⟩ rfl (kw_d σ hn) (cls_d hd) hdg).wide (fun u h => (by rw [h9, wLay_o (by decide) (by decide), sLay_o (by decide) (by decide) (by decide)]; obtain ⟨g1, g2, g3⟩ := h; have e := layW_0 g1 g2; exact ⟨e, by rw [g3, lay0_p (σ := σ) e]⟩)) (fun E u h => (by rw [h9, wLay_o (by decide) (by decide), sLay_o (by decide) (by decide) (by decide)]; obtain ⟨g1, g2⟩ := h; have e := layE_n g1; exact ⟨layE_1 g1, by rw [g2, lay0_n (σ := σ) e, pLf_eq]⟩)) (Nat.le_of_ble_eq_true rfl) (Nat.le_of_ble_eq_true rfl)
  · exact (rU_xv (x := ⟨"BakeHouse$Dough", "doLay", "(LBakeHouse$Shelf;I)V"⟩) (n := 2) (As := [.ref (G (5 + k)), .int pl]) (rest := []) cx hw (c_X2_doLay l hl0 D G Q σ i hn hd k hk pl) (by rw [h9]; exact ⟨tw_628, tw_631, tw_629, tw_652, tw_629, tw_5, tw_655, ⟨_, _, _, tw_655⟩, by decide, rfl⟩) ⟨by decide +kernel, rfl, hls, (Nat.le_of_ble_eq_true rfl), ⟨Nat.le_trans (Nat.le_of_ble_eq_true rfl) hR.1, Nat.le_trans (Nat.le_of_ble_eq_true rfl) hR.2.1⟩, ⟨Nat.le_trans (Nat.add_le_add_left (Nat.le_of_ble_eq_true rfl) _) hR.2.2.1, Nat.le_trans (Nat.add_le_add_left (Nat.le_of_ble_eq_true rfl) _) hR.2.2.2⟩, rfl, rfl⟩ rfl (kw_d σ hn) (cls_d hd) hdg).wide (fun u h => (by rw [h9, wLay_o (by decide) (by decide), sLay_o (by decide) (by decide) (by decide)]; obtain ⟨g1, g2, g3⟩ := h; have e := layW_0 g1 g2; exact ⟨e, by rw [g3, lay0_p (σ := σ) e]⟩)) (fun E u h => (by rw [h9, wLay_o (by decide) (by decide), sLay_o (by decide) (by decide) (by decide)]; obtain ⟨g1, g2⟩ := h; have e := layE_n g1; exact ⟨layE_1 g1, by rw [g2, lay0_n (σ := σ) e, pLf_eq]⟩)) (Nat.le_of_ble_eq_true rfl) (Nat.le_of_ble_eq_true rfl)
  · exact (rU_xv (x := ⟨"BakeHouse$Dough", "doLay", "(LBakeHouse$Shelf;I)V"⟩) (n := 2) (As := [.ref (G (5 + k)), .int pl]) (rest := []) cx hw (c_X2_doLay l hl0 D G Q σ i hn hd k hk pl) (by rw [h9]; exact ⟨tw_628, tw_631, tw_629, tw_654, tw_629, tw_5, tw_655, ⟨_, _, _, tw_655⟩, by decide, rfl⟩) ⟨by decide +kernel, rfl, hls, (Nat.le_of_ble_eq_true rfl), ⟨Nat.le_trans (Nat.le_of_ble_eq_true rfl) hR.1, Nat.le_trans (Nat.le_of_ble_eq_true rfl) hR.2.1⟩, ⟨Nat.le_trans (Nat.add_le_add_left (Nat.le_of_ble_eq_true rfl) _) hR.2.2.1, Nat.le_trans (Nat.add_le_add_left (Nat.le_of_ble_eq_true rfl) _) hR.2.2.2⟩, rfl, rfl⟩ rfl (kw_d σ hn) (cls_d hd) hdg).wide (fun u h => (by rw [h9, wLay_o (by decide) (by decide), sLay_o (by decide) (by decide) (by decide)]; obtain ⟨g1, g2, g3⟩ := h; have e := layW_0 g1 g2; exact ⟨e, by rw [g3, lay0_p (σ := σ) e]⟩)) (fun E u h => (by rw [h9, wLay_o (by decide) (by decide), sLay_o (by decide) (by decide) (by decide)]; obtain ⟨g1, g2⟩ := h; have e := layE_n g1; exact ⟨layE_1 g1, by rw [g2, lay0_n (σ := σ) e, pLf_eq]⟩)) (Nat.le_of_ble_eq_true rfl) (Nat.le_of_ble_eq_true rfl)
  · exact (rU_xv (x := ⟨"BakeHouse$Dough", "doLay", "(LBakeHouse$Shelf;I)V"⟩) (n := 2) (As := [.ref (G (5 + k)), .int pl]) (rest := []) cx hw (c_X2_doLay l hl0 D G Q σ i hn hd k hk pl) (by rw [h9]; exact ⟨tw_628, tw_631, tw_629, tw_653, tw_629, tw_5, tw_655, ⟨_, _, _, tw_655⟩, by decide, rfl⟩) ⟨by decide +kernel, rfl, hls, (Nat.le_of_ble_eq_true rfl), ⟨Nat.le_trans (Nat.le_of_ble_eq_true rfl) hR.1, Nat.le_trans (Nat.le_of_ble_eq_true rfl) hR.2.1⟩, ⟨Nat.le_trans (Nat.add_le_add_left (Nat.le_of_ble_eq_true rfl) _) hR.2.2.1, Nat.le_trans (Nat.add_le_add_left (Nat.le_of_ble_eq_true rfl) _) hR.2.2.2⟩, rfl, rfl⟩ rfl (kw_d σ hn) (cls_d hd) hdg).wide (fun u h => (by rw [h9, wLay_o (by decide) (by decide), sLay_o (by decide) (by decide) (by decide)]; obtain ⟨g1, g2, g3⟩ := h; have e := layW_0 g1 g2; exact ⟨e, by rw [g3, lay0_p (σ := σ) e]⟩)) (fun E u h => (by rw [h9, wLay_o (by decide) (by decide), sLay_o (by decide) (by decide) (by decide)]; obtain ⟨g1, g2⟩ := h; have e := layE_n g1; exact ⟨layE_1 g1, by rw [g2, lay0_n (σ := σ) e, pLf_eq]⟩)) (Nat.le_of_ble_eq_true rfl) (Nat.le_of_ble_eq_true rfl)
  · exact (rU_xv (x := ⟨"BakeHouse$Dough", "doLay", "(LBakeHouse$Shelf;I)V"⟩) (n := 2) (As := [.ref (G (5 + k)), .int pl]) (rest := []) cx hw (c_X1_doLay l hl0 D G Q σ i hn hd k hk pl) (by rw [h9]; exact ⟨tw_628, tw_631, tw_629, tw_632, tw_633, tw_10, tw_634, ⟨_, _, _, tw_655⟩, by decide, rfl⟩) ⟨by decide +kernel, rfl, hls, (Nat.le_of_ble_eq_true rfl), ⟨Nat.le_trans (Nat.le_of_ble_eq_true rfl) hR.1, Nat.le_trans (Nat.le_of_ble_eq_true rfl) hR.2.1⟩, ⟨Nat.le_trans (Nat.add_le_add_left (Nat.le_of_ble_eq_true rfl) _) hR.2.2.1, Nat.le_trans (Nat.add_le_add_left (Nat.le_of_ble_eq_true rfl) _) hR.2.2.2⟩, rfl, rfl⟩ rfl (kw_d σ hn) (cls_d hd) hdg).wide (fun u h => (by rw [h9]; obtain ⟨g1, g2, g3, g4⟩ := h; have e := layW_0 g1 g2; have e2 := layW_0 g1 g3; rw [wLay_5p e, sLay_5p e]; exact ⟨e2, by rw [g4, lay0_p (σ := pL0 i k pl (sBeg 2 5 σ)) e2]⟩)) (fun E u h => (by
      rw [h9]
      rcases h with ⟨g1, g2⟩ | ⟨g1, g2, g3, g4⟩
      · have e := layE_n g1
        rw [wLay_5n e, sLay_5n e]
        exact ⟨layE_1 g1, by rw [g2, pLf_eq]⟩
      · have e := layW_0 g1 g2
        have e2 := layE_n g3
        rw [wLay_5p e, sLay_5p e]
        exact ⟨layE_1 g3, by rw [g4, lay0_n (σ := pL0 i k pl (sBeg 2 5 σ)) e2, pLf_eq]⟩)) (Nat.le_of_ble_eq_true rfl) (Nat.le_of_ble_eq_true rfl)
  · exact (rU_xv (x := ⟨"BakeHouse$Dough", "doLay", "(LBakeHouse$Shelf;I)V"⟩) (n := 2) (As := [.ref (G (5 + k)), .int pl]) (rest := []) cx hw (c_X3_doLay l hl0 D G Q σ i hn hd k hk pl) (by rw [h9]; exact ⟨tw_628, tw_631, tw_629, tw_638, tw_639, tw_11, tw_640, ⟨_, _, _, tw_655⟩, by decide, rfl⟩) ⟨by decide +kernel, rfl, hls, (Nat.le_of_ble_eq_true rfl), ⟨Nat.le_trans (Nat.le_of_ble_eq_true rfl) hR.1, Nat.le_trans (Nat.le_of_ble_eq_true rfl) hR.2.1⟩, ⟨Nat.le_trans (Nat.add_le_add_left (Nat.le_of_ble_eq_true rfl) _) hR.2.2.1, Nat.le_trans (Nat.add_le_add_left (Nat.le_of_ble_eq_true rfl) _) hR.2.2.2⟩, rfl, rfl⟩ rfl (kw_d σ hn) (cls_d hd) hdg).wide (fun u h => (by rw [h9, wLay_6, sLay_6]; obtain ⟨g1, g2, g3⟩ := h; have e := layW_0 g1 g2; exact ⟨e, by rw [g3, lay0_p (σ := sBeg 2 6 σ) e]⟩)) (fun E u h => (by rw [h9, wLay_6, sLay_6]; obtain ⟨g1, g2⟩ := h; have e := layE_n g1; exact ⟨layE_1 g1, by rw [g2, lay0_n (σ := sBeg 2 6 σ) e, pLf_eq]⟩)) (Nat.le_of_ble_eq_true rfl) (Nat.le_of_ble_eq_true rfl)
  · exact (rU_xv (x := ⟨"BakeHouse$Dough", "doLay", "(LBakeHouse$Shelf;I)V"⟩) (n := 2) (As := [.ref (G (5 + k)), .int pl]) (rest := []) cx hw (c_X5_doLay l hl0 D G Q σ i hn hd k hk h9 ac hac hab pl) (by rw [h9]; exact ⟨tw_628, tw_631, tw_629, tw_643, tw_644, tw_12, tw_645, ⟨_, _, _, tw_655⟩, by decide, rfl⟩) ⟨by decide +kernel, rfl, hls, (Nat.le_of_ble_eq_true rfl), ⟨Nat.le_trans (Nat.le_of_ble_eq_true rfl) hR.1, Nat.le_trans (Nat.le_of_ble_eq_true rfl) hR.2.1⟩, ⟨Nat.le_trans (Nat.add_le_add_left (Nat.le_of_ble_eq_true rfl) _) hR.2.2.1, Nat.le_trans (Nat.add_le_add_left (Nat.le_of_ble_eq_true rfl) _) hR.2.2.2⟩, rfl, rfl⟩ rfl (kw_d σ hn) (cls_d hd) hdg).wide (fun u h => (by rw [h9, wLay_o (by decide) (by decide), sLay_7]; obtain ⟨g1, g2, g3⟩ := h; have e := layW_0 g1 g2; exact ⟨e, by rw [g3, lay0_p (σ := pF4 i (sBeg 2 7 σ)) e]⟩)) (fun E u h => (by rw [h9, wLay_o (by decide) (by decide), sLay_7]; obtain ⟨g1, g2⟩ := h; have e := layE_n g1; exact ⟨layE_1 g1, by rw [g2, lay0_n (σ := pF4 i (sBeg 2 7 σ)) e, pLf_eq]⟩)) (Nat.le_of_ble_eq_true rfl) (Nat.le_of_ble_eq_true rfl)
end
section
abbrev Ans : Type := Int32 × Nat × St
abbrev okL (σ : St) (lo : Int32) : Prop := 0 ≤ lo ∧ lo < nI (s_n σ)
abbrev okS (ks : Int32) : Prop := 0 ≤ ks ∧ ks < 4
theorem okL_iff {σ : St} {lo : Int32} (h : s_n σ ≤ 20) : okL σ lo ↔ vp_in lo (s_n σ) := by
  constructor
  · intro h2
    exact Classical.byContradiction (fun h3 => by
      have h3 : ¬ vp_in lo (s_n σ) := h3
      rw [vp_no (by omega)] at h3
      rcases h3 with h3 | h3
      · exact Int32.not_lt.mpr h2.1 h3
      · exact Int32.not_le.mpr h2.2 h3)
  · intro h2
    obtain ⟨j, hj, rfl⟩ := vp_in_of h2 (by omega)
    exact ⟨nI_pos' (by omega), nI_lt hj (by omega)⟩
theorem okL_i {σ : St} {lo : Int32} (h : s_n σ ≤ 20) (h2 : okL σ lo) : ∃ i, i < s_n σ ∧ lo = nI i := vp_in_of ((okL_iff h).mp h2) (by omega)
theorem okL_n {σ : St} {lo : Int32} (h : s_n σ ≤ 20) (h2 : ¬ okL σ lo) : ¬ vp_in lo (s_n σ) := fun h3 => h2 ((okL_iff h).mpr h3)
theorem okS_iff {ks : Int32} : okS ks ↔ vp_in ks 4 := by
  constructor
  · intro h2
    exact Classical.byContradiction (fun h3 => by
      have h3 : ¬ vp_in ks 4 := h3
      rw [vp_no (by omega)] at h3
      rcases h3 with h3 | h3
      · exact Int32.not_lt.mpr h2.1 h3
      · exact Int32.not_le.mpr h2.2 h3)
  · intro h2
    obtain ⟨j, hj, rfl⟩ := vp_in_of h2 (by omega)
    exact ⟨nI_pos' (by omega), nI_lt (b := 4) hj (by omega)⟩
theorem okS_k {ks : Int32} (h2 : okS ks) : ∃ k, k < 4 ∧ ks = nI k := vp_in_of (okS_iff.mp h2) (by omega)
theorem okS_n {ks : Int32} (h2 : ¬ okS ks) : ¬ vp_in ks 4 := fun h3 => h2 (okS_iff.mpr h3)
theorem cl20 {σ : St} {i : Nat} (h : s_n σ ≤ 20) (hi : i < s_n σ) : (nI i).toNatClampNeg = i := nI_clamp (by omega)
theorem cl4 {k : Nat} (h : k < 4) : (nI k).toNatClampNeg = k := nI_clamp (by omega)
def okA (o : Ans) (r : Int32) (u : St) : Prop := o.2.1 = 0 ∧ r = o.1 ∧ u = o.2.2
def exA (X : Nat → String → Prop) (o : Ans) (E : String) (u : St) : Prop := X o.2.1 E ∧ u = o.2.2
theorem okA_of {o : Ans} {r : Int32} {u : St} (e : o = (r, 0, u)) : okA o r u := by subst e; exact ⟨rfl, rfl, rfl⟩
theorem exA_of {X : Nat → String → Prop} {o : Ans} {E : String} {u : St} {a : Int32} {n : Nat} (e : o = (a, n, u)) (h : X n E) : exA X o E u := by subst e; exact ⟨h, rfl⟩
def eISE (w : Nat) (E : String) : Prop := w = 1 ∧ E = "java/lang/IllegalStateException"
def eARI (w : Nat) (E : String) : Prop := w = 1 ∧ E = "java/lang/ArithmeticException"
def eNAS (w : Nat) (E : String) : Prop := w = 1 ∧ E = "java/lang/NegativeArraySizeException"
abbrev w600 (m : Int32) : Prop := 0 ≤ m ∧ m ≤ 600
abbrev w400 (m : Int32) : Prop := 0 ≤ m ∧ m ≤ 400
def aRest (σ : St) (lo mi : Int32) : Ans := if okL σ lo then (if w600 mi then (if fRest (s_k σ lo.toNatClampNeg) lo.toNatClampNeg mi σ then (0, 1, rRest (s_k σ lo.toNatClampNeg) lo.toNatClampNeg mi σ) else (s_F (rRest (s_k σ lo.toNatClampNeg) lo.toNatClampNeg mi σ) 4 lo.toNatClampNeg, 0, rRest (s_k σ lo.toNatClampNeg) lo.toNatClampNeg mi σ)) else (-102, 0, σ)) else (-101, 0, σ)
def aFold (σ : St) (lo : Int32) : Ans := if okL σ lo then (s_F (rFold (s_k σ lo.toNatClampNeg) lo.toNatClampNeg σ) 5 lo.toNatClampNeg, 0, rFold (s_k σ lo.toNatClampNeg) lo.toNatClampNeg σ) else (-101, 0, σ)
def aBake (σ : St) (lo ht : Int32) : Ans := if okL σ lo then (if w400 ht then (vBake (s_k σ lo.toNatClampNeg) lo.toNatClampNeg ht σ, 0, rBake (s_k σ lo.toNatClampNeg) lo.toNatClampNeg ht σ) else (-102, 0, σ)) else (-101, 0, σ)
def aWorth (σ : St) (lo : Int32) : Ans := if okL σ lo then (if fWorth (s_k σ lo.toNatClampNeg) lo.toNatClampNeg σ then (0, 1, rWorth (s_k σ lo.toNatClampNeg) lo.toNatClampNeg σ) else (vWorth (s_k σ lo.toNatClampNeg) lo.toNatClampNeg σ, 0, rWorth (s_k σ lo.toNatClampNeg) lo.toNatClampNeg σ)) else (-101, 0, σ)
def vCost (kd i : Nat) (σ : St) : Int32 := if kd = 5 then vWorth kd i σ + 7 else vWorth kd i σ + vWorth kd i σ / 10
abbrev sold (kd : Nat) : Prop := 4 ≤ kd
def aCost (σ : St) (lo : Int32) : Ans := if okL σ lo then (if sold (s_k σ lo.toNatClampNeg) then (if fWorth (s_k σ lo.toNatClampNeg) lo.toNatClampNeg σ then (0, 1, rWorth (s_k σ lo.toNatClampNeg) lo.toNatClampNeg σ) else (vCost (s_k σ lo.toNatClampNeg) lo.toNatClampNeg σ, 0, rWorth (s_k σ lo.toNatClampNeg) lo.toNatClampNeg σ)) else (-103, 0, σ)) else (-101, 0, σ)
def chg (co v : Int32) : Int32 := if 0 ≤ co - v then co - v else -1
def aChange (σ : St) (lo co : Int32) : Ans := if okL σ lo then (if 0 ≤ co ∧ co ≤ 100000 then (if sold (s_k σ lo.toNatClampNeg) then (if fWorth (s_k σ lo.toNatClampNeg) lo.toNatClampNeg σ then (0, 1, rWorth (s_k σ lo.toNatClampNeg) lo.toNatClampNeg σ) else (chg co (vCost (s_k σ lo.toNatClampNeg) lo.toNatClampNeg σ), 0, rWorth (s_k σ lo.toNatClampNeg) lo.toNatClampNeg σ)) else (-103, 0, σ)) else (-102, 0, σ)) else (-101, 0, σ)
def aAt (σ : St) (ks pl : Int32) : Ans := if okS ks then (if hasP (s_z σ ks.toNatClampNeg) pl then s_r σ ks.toNatClampNeg pl.toNatClampNeg else -1, 0, σ) else (-102, 0, σ)
def aPlaces (σ : St) (ks : Int32) : Ans := if okS ks then (s_z σ ks.toNatClampNeg, 0, σ) else (-102, 0, σ)
def aTell (σ : St) (lo wh : Int32) : Ans := if okL σ lo then (if wh = 0 then nI (s_k σ lo.toNatClampNeg) else if wh = 1 then s_F σ 3 lo.toNatClampNeg else if wh = 2 then s_F σ 4 lo.toNatClampNeg else if wh = 3 then s_F σ 5 lo.toNatClampNeg else if wh = 4 then s_F σ 6 lo.toNatClampNeg else if wh = 5 then s_F σ 7 lo.toNatClampNeg else -102, 0, σ) else (-101, 0, σ)
def aCount (σ : St) (wh : Int32) : Ans := (if wh = 0 then nI (s_n σ) else if wh = 1 then nI (s_N σ) else if wh = 2 then s_c σ 4 else if wh = 3 then s_c σ 5 else if wh = 4 then s_c σ 6 else -102, 0, σ)
def aOut (σ : St) (ks : Int32) : Ans := if okS ks then (if s_z σ ks.toNatClampNeg = -1 then (0, 0, σ) else (1, 0, sZ ks.toNatClampNeg (-1) σ)) else (-102, 0, σ)
def aShelf (σ : St) (ks nn : Int32) : Ans := if okS ks ∧ nn ≤ 8 then (if nn < 0 then (0, 1, σ) else (nn, 0, clr ks.toNatClampNeg (sZ ks.toNatClampNeg nn σ) 8)) else (-102, 0, σ)
def aBook (σ : St) (ix : Int32) : Ans := (if 0 ≤ ix ∧ ix < kp (s_N σ) then s_g σ ((s_N σ - 1 - ix.toNatClampNeg) % 100) else -1, 0, σ)
theorem geoF (kd i : Nat) (σ : St) : s_n (rFold kd i σ) = s_n σ ∧ s_k (rFold kd i σ) = s_k σ ∧ s_a (rFold kd i σ) = s_a σ := by
  unfold rFold; split
  · exact ⟨rfl, rfl, rfl⟩
  · split
    · exact ⟨rfl, rfl, rfl⟩
    · split <;> exact ⟨rfl, rfl, rfl⟩
theorem geoW (kd i : Nat) (σ : St) : s_n (rWorth kd i σ) = s_n σ ∧ s_k (rWorth kd i σ) = s_k σ ∧ s_a (rWorth kd i σ) = s_a σ := by
  unfold rWorth; split
  · exact ⟨rfl, rfl, rfl⟩
  · split
    · exact ⟨rfl, rfl, rfl⟩
    · split
      · exact ⟨rfl, rfl, rfl⟩
      · split
        · split <;> exact ⟨rfl, rfl, rfl⟩
        · exact ⟨rfl, rfl, rfl⟩
theorem geoB (kd i : Nat) (ht : Int32) (σ : St) : s_n (rBake kd i ht σ) = s_n σ ∧ s_k (rBake kd i ht σ) = s_k σ ∧ s_a (rBake kd i ht σ) = s_a σ := by
  unfold rBake; split
  · exact ⟨rfl, rfl, rfl⟩
  · split
    · exact ⟨rfl, rfl, rfl⟩
    · split
      · exact ⟨rfl, rfl, rfl⟩
      · split <;> exact ⟨rfl, rfl, rfl⟩
theorem geoR (kd i : Nat) (mi : Int32) (σ : St) : s_n (rRest kd i mi σ) = s_n σ ∧ s_k (rRest kd i mi σ) = s_k σ ∧ s_a (rRest kd i mi σ) = s_a σ := by
  unfold rRest; split
  · exact ⟨rfl, rfl, rfl⟩
  · split
    · exact ⟨rfl, rfl, rfl⟩
    · split
      · exact ⟨rfl, rfl, rfl⟩
      · split
        · split <;> exact ⟨rfl, rfl, rfl⟩
        · exact ⟨rfl, rfl, rfl⟩
theorem kw_dg {G : Nat → Nat} {Q : Nat → ClassId} {σ u : St} {i : Nat} (e : s_n u = s_n σ ∧ s_k u = s_k σ ∧ s_a u = s_a σ) (h : i < s_n σ) : (kw G Q u)[13 + i]? = some (s_a σ i, .inr (4 + s_k σ i, [.ref (G 1), .int (nI i), .int (nI (s_k σ i)), .int (s_F u 3 i), .int (s_F u 4 i), .int (s_F u 5 i), .int (s_F u 6 i), .int (s_F u 7 i)])) := by
  rw [kw_d u (by rw [e.1]; exact h), ← e.2.1, ← e.2.2]; rfl
theorem sold_w {kd : Nat} (h : kd < 8) : wth (nI kd) 4 7 = 0 ↔ ¬ sold kd := by
  rw [wth_eq0, show (4 : Int32) = nI 4 from rfl, show (7 : Int32) = nI 7 from rfl, nI_leI (by decide) (by omega), nI_leI (by omega) (by decide)]
  constructor <;> intro h2 h3 <;> omega
theorem i_ne {x : Int32} {n : Int} (y : Int32) (hy : y.toInt = n) (h : ¬ x = y) : x.toInt ≠ n := fun e => h (Int32.toInt_inj.mp (e.trans hy.symm))
theorem sw_o5 {x : Int32} (h0 : ¬ x = 0) (h1 : ¬ x = 1) (h2 : ¬ x = 2) (h3 : ¬ x = 3) (h4 : ¬ x = 4) (h5 : ¬ x = 5) : x.toInt < 0 ∨ 5 < x.toInt := by
  have a0 := i_ne (n := 0) 0 rfl h0
  have a1 := i_ne (n := 1) 1 rfl h1
  have a2 := i_ne (n := 2) 2 rfl h2
  have a3 := i_ne (n := 3) 3 rfl h3
  have a4 := i_ne (n := 4) 4 rfl h4
  have a5 := i_ne (n := 5) 5 rfl h5
  omega
theorem sw_o4 {x : Int32} (h0 : ¬ x = 0) (h1 : ¬ x = 1) (h2 : ¬ x = 2) (h3 : ¬ x = 3) (h4 : ¬ x = 4) : x.toInt < 0 ∨ 4 < x.toInt := by
  have a0 := i_ne (n := 0) 0 rfl h0
  have a1 := i_ne (n := 1) 1 rfl h1
  have a2 := i_ne (n := 2) 2 rfl h2
  have a3 := i_ne (n := 3) 3 rfl h3
  have a4 := i_ne (n := 4) 4 rfl h4
  omega
theorem b01_or {b : Prop} [Decidable b] : b01 b = 0 ∨ b01 b = 1 := by unfold b01; split <;> simp
theorem vBake_or {kd i : Nat} {ht : Int32} {σ : St} : vBake kd i ht σ = 0 ∨ vBake kd i ht σ = 1 := by
  unfold vBake; split
  · exact b01_or
  · split <;> exact b01_or
theorem k5 {kd : Nat} (h : kd < 8) : nI kd = 5 ↔ kd = 5 := nI_eq (b := 5) (by omega) (by decide)
theorem row_a {N t : Nat} (h : t < min N 100) (ht : t ≤ (N - 1) % 100) : nx N - 1 - nI t = nI ((N - 1 - t) % 100) := by
  rw [nx_of, if_neg (by omega), nI_pred, pk_sub ht]; congr 1; omega
theorem row_b {N t : Nat} (h : t < min N 100) (ht : ¬ t ≤ (N - 1) % 100) : nx N - 1 - nI t < 0 ∧ nx N - 1 - nI t + 100 = nI ((N - 1 - t) % 100) := by
  rw [nx_of, if_neg (by omega), nI_pred]
  refine ⟨pk_sneg (by omega) (by omega), ?_⟩
  rw [show nI ((N - 1) % 100) - nI t + 100 = nI ((N - 1) % 100) + nI 100 - nI t by
    rw [show (100 : Int32) = nI 100 from rfl]; simp only [Int32.sub_eq_add_neg]; rw [Int32.add_assoc, Int32.add_assoc, Int32.add_comm (-nI t)], nI_add, pk_sub (by omega)]
  congr 1; omega
theorem kp_i {N : Nat} {ix : Int32} (h : 0 ≤ ix ∧ ix < kp N) : ∃ t, t < min N 100 ∧ ix = nI t := by
  obtain ⟨t, ht, rfl⟩ := nI_of (x := ix) (Int32.not_lt.mpr h.1)
  have h2 := h.2
  unfold kp at h2
  rw [nI_ltI (by omega) (by omega)] at h2
  exact ⟨t, h2, rfl⟩
end
section
set_option maxHeartbeats 4000000 in
set_option maxRecDepth 100000 in
theorem c_X10_rest (l : Launch) (hl0 : l.stackTraces = false) (D : va_G) (G : Nat → Nat) (Q : Nat → ClassId) (σ : St) {b : Nat} (hI : Inv b σ) (lo mi : Int32) : XI l yX10_rest cX10_rest 4 .int ({ frames := 16, cells := 1, slots := 6, locals := 600 }) D cls (tyl Q) [.ref (G 0), .int lo, .int mi] (kw G Q) (kw G Q σ) (okA (aRest σ lo mi)) (exA eISE (aRest σ lo mi)) 1 6 := by
  refine XI_of (by decide) (Nat.le_of_ble_eq_true rfl) ?_
  intro p e s m args below meth c A ls htab cx hw hl
  have hl : lv_has ls 4 [(0, .ref (G 0)), (1, .int lo), (2, .int mi)] := hl
  have hN9 := hI.n
  by_cases hv : okL σ lo
  · obtain ⟨i, hn, rfl⟩ := okL_i hN9 hv
    have hd := hI.k hn
    by_cases hm : w600 mi
    · refine lv_aload_n cx.x cx.b dX10_rest_0 rfl (lv_at hl 0 rfl) ?_
      refine lv_iload_n cx.x cx.b dX10_rest_1 rfl (lv_at hl 1 rfl) ?_
      refine cgo_r cx hw (rV_r (q0 := 0) (n := 1) (As := [.int (nI i)]) (rest := []) cx hw (c_findLoaf_s l D G Q σ hN9 i hn) (gd_V tw_294 tw_296 ts_2 tw_1 tw_297) rfl ⟨by decide +kernel, rfl, hl.1, (Nat.le_of_ble_eq_true rfl), ⟨(Nat.le_of_ble_eq_true rfl), (Nat.le_of_ble_eq_true rfl)⟩, ⟨(Nat.le_of_ble_eq_true rfl), (Nat.le_of_ble_eq_true rfl)⟩, rfl, rfl⟩ rfl (kw_h σ) rfl dX10_rest_2) (fun r u H locs hp hw => ?_)
      obtain ⟨h8, h9⟩ := hp
      have h8 := h8.symm
      have h9 := h9.symm
      subst h8
      subst h9
      refine W.eq (g2 := F0 m 5 ls [.ref (s_a σ i)]) rfl ?_
      refine lv_astore_n (lv' := [(3, .ref (s_a σ i)), (0, .ref (G 0)), (1, .int (nI i)), (2, .int mi)]) cx.x cx.b dX10_rest_5 rfl hl (by decide) rfl (fun ls hl => ?_)
      refine lv_aload_n cx.x cx.b dX10_rest_6 rfl (lv_at hl 0 rfl) ?_
      refine lv_ifnonnull (tgt := 13) cx.x cx.b dX10_rest_7 (by decide) ?_
      refine lv_iload_n cx.x cx.b dX10_rest_13 rfl (lv_at hl 3 rfl) ?_
      refine lv_iconst (v := 0) cx.x cx.b dX10_rest_14 (by decide) ?_
      refine lv_sipush (v := 600) cx.x cx.b dX10_rest_15 (by decide) ?_
      refine cgo_i cx hw (rS_i (n := 3) (As := [.int mi, .int 0, .int 600]) (rest := []) cx hw (c_X10_within l D G Q σ mi 0 600) (gd_S tw_102 tw_103 tw_1 tw_104) ⟨by decide +kernel, rfl, hl.1, (Nat.le_of_ble_eq_true rfl), ⟨(Nat.le_of_ble_eq_true rfl), (Nat.le_of_ble_eq_true rfl)⟩, ⟨(Nat.le_of_ble_eq_true rfl), (Nat.le_of_ble_eq_true rfl)⟩, rfl, rfl⟩ rfl dX10_rest_18) (fun r u H locs hp hw => ?_)
      obtain ⟨h8, h9⟩ := hp
      have h8 := h8.symm
      have h9 := h9.symm
      subst h8
      subst h9
      refine lv_if_eq (tgt := 32) cx.x cx.b dX10_rest_21 (by decide) (fun hb21 => absurd hb21 (by rw [wth_eq0]; exact fun h => h hm)) (fun hb21 => ?_)
      refine lv_aload_n cx.x cx.b dX10_rest_24 rfl (lv_at hl 0 rfl) ?_
      refine lv_iload_n cx.x cx.b dX10_rest_25 rfl (lv_at hl 3 rfl) ?_
      refine cgo_xi cx hw (dp_rest hl0 cx hw hn hd mi ⟨(Nat.le_of_ble_eq_true rfl), (Nat.le_of_ble_eq_true rfl), (Nat.le_of_ble_eq_true rfl), (Nat.le_of_ble_eq_true rfl)⟩ hl.1 dX10_rest_26) (fun E ce q u H locs hp hw h1 h2 h3 => ?_) (fun r u H locs hp hw => ?_)
      · obtain ⟨g1, g2, g3⟩ := hp
        subst g3
        exact xout_i _ htab cx hw (exA_of (by unfold aRest; rw [if_pos hv, if_pos hm, cl20 hN9 hn, if_pos g1]) ⟨rfl, g2⟩) (Nat.le_of_ble_eq_true rfl) (Nat.le_of_ble_eq_true rfl) h1 h2 h3
      obtain ⟨g1, h8, h9⟩ := hp
      have h8 := h8.symm
      have h9 := h9.symm
      subst h8
      subst h9
      refine lv_goto (tgt := 34) cx.x cx.b dX10_rest_29 (by decide) ?_
      exact xret_i (rRest (s_k σ i) i mi σ) cx hw (okA_of (by unfold aRest; rw [if_pos hv, if_pos hm, cl20 hN9 hn, if_neg g1])) dX10_rest_34 (Nat.le_of_ble_eq_true rfl) (Nat.le_of_ble_eq_true rfl)
    · refine lv_aload_n cx.x cx.b dX10_rest_0 rfl (lv_at hl 0 rfl) ?_
      refine lv_iload_n cx.x cx.b dX10_rest_1 rfl (lv_at hl 1 rfl) ?_
      refine cgo_r cx hw (rV_r (q0 := 0) (n := 1) (As := [.int (nI i)]) (rest := []) cx hw (c_findLoaf_s l D G Q σ hN9 i hn) (gd_V tw_294 tw_296 ts_2 tw_1 tw_297) rfl ⟨by decide +kernel, rfl, hl.1, (Nat.le_of_ble_eq_true rfl), ⟨(Nat.le_of_ble_eq_true rfl), (Nat.le_of_ble_eq_true rfl)⟩, ⟨(Nat.le_of_ble_eq_true rfl), (Nat.le_of_ble_eq_true rfl)⟩, rfl, rfl⟩ rfl (kw_h σ) rfl dX10_rest_2) (fun r u H locs hp hw => ?_)
      obtain ⟨h8, h9⟩ := hp
      have h8 := h8.symm
      have h9 := h9.symm
      subst h8
      subst h9
      refine W.eq (g2 := F0 m 5 ls [.ref (s_a σ i)]) rfl ?_
      refine lv_astore_n (lv' := [(3, .ref (s_a σ i)), (0, .ref (G 0)), (1, .int (nI i)), (2, .int mi)]) cx.x cx.b dX10_rest_5 rfl hl (by decide) rfl (fun ls hl => ?_)
      refine lv_aload_n cx.x cx.b dX10_rest_6 rfl (lv_at hl 0 rfl) ?_
      refine lv_ifnonnull (tgt := 13) cx.x cx.b dX10_rest_7 (by decide) ?_
      refine lv_iload_n cx.x cx.b dX10_rest_13 rfl (lv_at hl 3 rfl) ?_
      refine lv_iconst (v := 0) cx.x cx.b dX10_rest_14 (by decide) ?_
      refine lv_sipush (v := 600) cx.x cx.b dX10_rest_15 (by decide) ?_
      refine cgo_i cx hw (rS_i (n := 3) (As := [.int mi, .int 0, .int 600]) (rest := []) cx hw (c_X10_within l D G Q σ mi 0 600) (gd_S tw_102 tw_103 tw_1 tw_104) ⟨by decide +kernel, rfl, hl.1, (Nat.le_of_ble_eq_true rfl), ⟨(Nat.le_of_ble_eq_true rfl), (Nat.le_of_ble_eq_true rfl)⟩, ⟨(Nat.le_of_ble_eq_true rfl), (Nat.le_of_ble_eq_true rfl)⟩, rfl, rfl⟩ rfl dX10_rest_18) (fun r u H locs hp hw => ?_)
      obtain ⟨h8, h9⟩ := hp
      have h8 := h8.symm
      have h9 := h9.symm
      subst h8
      subst h9
      refine lv_if_eq (tgt := 32) cx.x cx.b dX10_rest_21 (by decide) (fun hb21 => ?_) (fun hb21 => absurd (wth_eq0.mpr hm) hb21)
      refine lv_bipush (v := (-102)) cx.x cx.b dX10_rest_32 (by decide) ?_
      exact xret_i σ cx hw (okA_of (by unfold aRest; rw [if_pos hv, if_neg hm])) dX10_rest_34 (Nat.le_of_ble_eq_true rfl) (Nat.le_of_ble_eq_true rfl)
  · have hv9 := okL_n hN9 hv
    refine lv_aload_n cx.x cx.b dX10_rest_0 rfl (lv_at hl 0 rfl) ?_
    refine lv_iload_n cx.x cx.b dX10_rest_1 rfl (lv_at hl 1 rfl) ?_
    refine cgo_r cx hw (rV_r (q0 := 0) (n := 1) (As := [.int lo]) (rest := []) cx hw (c_findLoaf_n l D G Q σ hN9 lo hv9) (gd_V tw_294 tw_296 ts_2 tw_1 tw_297) rfl ⟨by decide +kernel, rfl, hl.1, (Nat.le_of_ble_eq_true rfl), ⟨(Nat.le_of_ble_eq_true rfl), (Nat.le_of_ble_eq_true rfl)⟩, ⟨(Nat.le_of_ble_eq_true rfl), (Nat.le_of_ble_eq_true rfl)⟩, rfl, rfl⟩ rfl (kw_h σ) rfl dX10_rest_2) (fun r u H locs hp hw => ?_)
    obtain ⟨h8, h9⟩ := hp
    have h8 := h8.symm
    have h9 := h9.symm
    subst h8
    subst h9
    refine W.eq (g2 := F0 m 5 ls [.null]) rfl ?_
    refine lv_astore_nN (lv' := [(3, .null), (0, .ref (G 0)), (1, .int lo), (2, .int mi)]) cx.x cx.b dX10_rest_5 rfl hl (by decide) rfl (fun ls hl => ?_)
    refine lv_aload_nN cx.x cx.b dX10_rest_6 rfl (lv_at hl 0 rfl) ?_
    refine lv_ifnonnullN cx.x cx.b dX10_rest_7 ?_
    refine lv_bipush (v := (-101)) cx.x cx.b dX10_rest_10 (by decide) ?_
    exact xret_i σ cx hw (okA_of (by unfold aRest; rw [if_neg hv])) dX10_rest_12 (Nat.le_of_ble_eq_true rfl) (Nat.le_of_ble_eq_true rfl)
set_option maxHeartbeats 4000000 in
set_option maxRecDepth 100000 in
theorem c_X10_fold (l : Launch) (D : va_G) (G : Nat → Nat) (Q : Nat → ClassId) (σ : St) {b : Nat} (hI : Inv b σ) (lo : Int32) : MI l yX10_fold cX10_fold 3 .int ({ frames := 16, cells := 0, slots := 0, locals := 600 }) D cls (tyl Q) [.ref (G 0), .int lo] (kw G Q) (kw G Q σ) (okA (aFold σ lo)) 0 0 := by
  refine MI_of (by decide) (Nat.le_of_ble_eq_true rfl) ?_
  intro p e s m args below meth c A ls cx hw hl
  have hl : lv_has ls 3 [(0, .ref (G 0)), (1, .int lo)] := hl
  have hN9 := hI.n
  by_cases hv : okL σ lo
  · obtain ⟨i, hn, rfl⟩ := okL_i hN9 hv
    have hd := hI.k hn
    obtain ⟨ac, hac, hab⟩ := hI.ac i
    refine lv_aload_n cx.x cx.b dX10_fold_0 rfl (lv_at hl 0 rfl) ?_
    refine lv_iload_n cx.x cx.b dX10_fold_1 rfl (lv_at hl 1 rfl) ?_
    refine cgo_r cx hw (rV_r (q0 := 0) (n := 1) (As := [.int (nI i)]) (rest := []) cx hw (c_findLoaf_s l D G Q σ hN9 i hn) (gd_V tw_294 tw_296 ts_2 tw_1 tw_297) rfl ⟨by decide +kernel, rfl, hl.1, (Nat.le_of_ble_eq_true rfl), ⟨(Nat.le_of_ble_eq_true rfl), (Nat.le_of_ble_eq_true rfl)⟩, ⟨(Nat.le_of_ble_eq_true rfl), (Nat.le_of_ble_eq_true rfl)⟩, rfl, rfl⟩ rfl (kw_h σ) rfl dX10_fold_2) (fun r u H locs hp hw => ?_)
    obtain ⟨h8, h9⟩ := hp
    have h8 := h8.symm
    have h9 := h9.symm
    subst h8
    subst h9
    refine W.eq (g2 := F0 m 5 ls [.ref (s_a σ i)]) rfl ?_
    refine lv_astore_n (lv' := [(2, .ref (s_a σ i)), (0, .ref (G 0)), (1, .int (nI i))]) cx.x cx.b dX10_fold_5 rfl hl (by decide) rfl (fun ls hl => ?_)
    refine lv_aload_n cx.x cx.b dX10_fold_6 rfl (lv_at hl 0 rfl) ?_
    refine lv_ifnonnull (tgt := 13) cx.x cx.b dX10_fold_7 (by decide) ?_
    refine lv_aload_n cx.x cx.b dX10_fold_13 rfl (lv_at hl 0 rfl) ?_
    refine cgo_v cx hw (dp_fold cx hw hn hd ac hac hab ⟨(Nat.le_of_ble_eq_true rfl), (Nat.le_of_ble_eq_true rfl), (Nat.le_of_ble_eq_true rfl), (Nat.le_of_ble_eq_true rfl)⟩ hl.1 dX10_fold_14) (fun u H locs hp hw => ?_)
    have h9 := hp.symm
    subst h9
    refine lv_aload_n cx.x cx.b dX10_fold_17 rfl (lv_at hl 0 rfl) ?_
    refine gt_f (v := .int (s_F (rFold (s_k σ i) i σ) 5 i)) cx hw (13 + i) (kw_dg (geoF _ _ _) hn) (cls_d hd) (inD_all _ hd) 5 (by decide) tw_143 ⟨rfl, rfl, Or.inl rfl⟩ rfl dX10_fold_18 ?_
    exact ret_i (rFold (s_k σ i) i σ) cx hw (okA_of (by unfold aFold; rw [if_pos hv, cl20 hN9 hn])) dX10_fold_21 (Nat.le_of_ble_eq_true rfl) (Nat.le_of_ble_eq_true rfl)
  · have hv9 := okL_n hN9 hv
    refine lv_aload_n cx.x cx.b dX10_fold_0 rfl (lv_at hl 0 rfl) ?_
    refine lv_iload_n cx.x cx.b dX10_fold_1 rfl (lv_at hl 1 rfl) ?_
    refine cgo_r cx hw (rV_r (q0 := 0) (n := 1) (As := [.int lo]) (rest := []) cx hw (c_findLoaf_n l D G Q σ hN9 lo hv9) (gd_V tw_294 tw_296 ts_2 tw_1 tw_297) rfl ⟨by decide +kernel, rfl, hl.1, (Nat.le_of_ble_eq_true rfl), ⟨(Nat.le_of_ble_eq_true rfl), (Nat.le_of_ble_eq_true rfl)⟩, ⟨(Nat.le_of_ble_eq_true rfl), (Nat.le_of_ble_eq_true rfl)⟩, rfl, rfl⟩ rfl (kw_h σ) rfl dX10_fold_2) (fun r u H locs hp hw => ?_)
    obtain ⟨h8, h9⟩ := hp
    have h8 := h8.symm
    have h9 := h9.symm
    subst h8
    subst h9
    refine W.eq (g2 := F0 m 5 ls [.null]) rfl ?_
    refine lv_astore_nN (lv' := [(2, .null), (0, .ref (G 0)), (1, .int lo)]) cx.x cx.b dX10_fold_5 rfl hl (by decide) rfl (fun ls hl => ?_)
    refine lv_aload_nN cx.x cx.b dX10_fold_6 rfl (lv_at hl 0 rfl) ?_
    refine lv_ifnonnullN cx.x cx.b dX10_fold_7 ?_
    refine lv_bipush (v := (-101)) cx.x cx.b dX10_fold_10 (by decide) ?_
    exact ret_i σ cx hw (okA_of (by unfold aFold; rw [if_neg hv])) dX10_fold_12 (Nat.le_of_ble_eq_true rfl) (Nat.le_of_ble_eq_true rfl)
set_option maxHeartbeats 4000000 in
set_option maxRecDepth 100000 in
theorem c_X10_bake (l : Launch) (D : va_G) (G : Nat → Nat) (Q : Nat → ClassId) (σ : St) {b : Nat} (hI : Inv b σ) (lo ht : Int32) : MI l yX10_bake cX10_bake 4 .int ({ frames := 16, cells := 0, slots := 0, locals := 600 }) D cls (tyl Q) [.ref (G 0), .int lo, .int ht] (kw G Q) (kw G Q σ) (okA (aBake σ lo ht)) 0 0 := by
  refine MI_of (by decide) (Nat.le_of_ble_eq_true rfl) ?_
  intro p e s m args below meth c A ls cx hw hl
  have hl : lv_has ls 4 [(0, .ref (G 0)), (1, .int lo), (2, .int ht)] := hl
  have hN9 := hI.n
  by_cases hv : okL σ lo
  · obtain ⟨i, hn, rfl⟩ := okL_i hN9 hv
    have hd := hI.k hn
    by_cases hm : w400 ht
    · refine lv_aload_n cx.x cx.b dX10_bake_0 rfl (lv_at hl 0 rfl) ?_
      refine lv_iload_n cx.x cx.b dX10_bake_1 rfl (lv_at hl 1 rfl) ?_
      refine cgo_r cx hw (rV_r (q0 := 0) (n := 1) (As := [.int (nI i)]) (rest := []) cx hw (c_findLoaf_s l D G Q σ hN9 i hn) (gd_V tw_294 tw_296 ts_2 tw_1 tw_297) rfl ⟨by decide +kernel, rfl, hl.1, (Nat.le_of_ble_eq_true rfl), ⟨(Nat.le_of_ble_eq_true rfl), (Nat.le_of_ble_eq_true rfl)⟩, ⟨(Nat.le_of_ble_eq_true rfl), (Nat.le_of_ble_eq_true rfl)⟩, rfl, rfl⟩ rfl (kw_h σ) rfl dX10_bake_2) (fun r u H locs hp hw => ?_)
      obtain ⟨h8, h9⟩ := hp
      have h8 := h8.symm
      have h9 := h9.symm
      subst h8
      subst h9
      refine W.eq (g2 := F0 m 5 ls [.ref (s_a σ i)]) rfl ?_
      refine lv_astore_n (lv' := [(3, .ref (s_a σ i)), (0, .ref (G 0)), (1, .int (nI i)), (2, .int ht)]) cx.x cx.b dX10_bake_5 rfl hl (by decide) rfl (fun ls hl => ?_)
      refine lv_aload_n cx.x cx.b dX10_bake_6 rfl (lv_at hl 0 rfl) ?_
      refine lv_ifnonnull (tgt := 13) cx.x cx.b dX10_bake_7 (by decide) ?_
      refine lv_iload_n cx.x cx.b dX10_bake_13 rfl (lv_at hl 3 rfl) ?_
      refine lv_iconst (v := 0) cx.x cx.b dX10_bake_14 (by decide) ?_
      refine lv_sipush (v := 400) cx.x cx.b dX10_bake_15 (by decide) ?_
      refine cgo_i cx hw (rS_i (n := 3) (As := [.int ht, .int 0, .int 400]) (rest := []) cx hw (c_X10_within l D G Q σ ht 0 400) (gd_S tw_102 tw_103 tw_1 tw_104) ⟨by decide +kernel, rfl, hl.1, (Nat.le_of_ble_eq_true rfl), ⟨(Nat.le_of_ble_eq_true rfl), (Nat.le_of_ble_eq_true rfl)⟩, ⟨(Nat.le_of_ble_eq_true rfl), (Nat.le_of_ble_eq_true rfl)⟩, rfl, rfl⟩ rfl dX10_bake_18) (fun r u H locs hp hw => ?_)
      obtain ⟨h8, h9⟩ := hp
      have h8 := h8.symm
      have h9 := h9.symm
      subst h8
      subst h9
      refine lv_if_ne (tgt := 27) cx.x cx.b dX10_bake_21 (by decide) (fun hb21 => ?_) (fun hb21 => absurd hb21 (by rw [wth_eq0]; exact fun h => h hm))
      refine lv_aload_n cx.x cx.b dX10_bake_27 rfl (lv_at hl 0 rfl) ?_
      refine lv_iload_n cx.x cx.b dX10_bake_28 rfl (lv_at hl 3 rfl) ?_
      refine cgo_i cx hw (dp_bake cx hw hn hd ht ⟨(Nat.le_of_ble_eq_true rfl), (Nat.le_of_ble_eq_true rfl), (Nat.le_of_ble_eq_true rfl), (Nat.le_of_ble_eq_true rfl)⟩ hl.1 dX10_bake_29) (fun r u H locs hp hw => ?_)
      obtain ⟨h8, h9⟩ := hp
      have h8 := h8.symm
      have h9 := h9.symm
      subst h8
      subst h9
      refine lv_if_eq (tgt := 39) cx.x cx.b dX10_bake_32 (by decide) (fun hb32 => ?_) (fun hb32 => ?_)
      · refine lv_iconst (v := 0) cx.x cx.b dX10_bake_39 (by decide) ?_
        exact ret_i (rBake (s_k σ i) i ht σ) cx hw (okA_of (by unfold aBake; rw [if_pos hv, if_pos hm, cl20 hN9 hn, hb32])) dX10_bake_40 (Nat.le_of_ble_eq_true rfl) (Nat.le_of_ble_eq_true rfl)
      · refine lv_iconst (v := 1) cx.x cx.b dX10_bake_35 (by decide) ?_
        refine lv_goto (tgt := 40) cx.x cx.b dX10_bake_36 (by decide) ?_
        exact ret_i (rBake (s_k σ i) i ht σ) cx hw (okA_of (by unfold aBake; rw [if_pos hv, if_pos hm, cl20 hN9 hn, vBake_or.resolve_left hb32])) dX10_bake_40 (Nat.le_of_ble_eq_true rfl) (Nat.le_of_ble_eq_true rfl)
    · refine lv_aload_n cx.x cx.b dX10_bake_0 rfl (lv_at hl 0 rfl) ?_
      refine lv_iload_n cx.x cx.b dX10_bake_1 rfl (lv_at hl 1 rfl) ?_
      refine cgo_r cx hw (rV_r (q0 := 0) (n := 1) (As := [.int (nI i)]) (rest := []) cx hw (c_findLoaf_s l D G Q σ hN9 i hn) (gd_V tw_294 tw_296 ts_2 tw_1 tw_297) rfl ⟨by decide +kernel, rfl, hl.1, (Nat.le_of_ble_eq_true rfl), ⟨(Nat.le_of_ble_eq_true rfl), (Nat.le_of_ble_eq_true rfl)⟩, ⟨(Nat.le_of_ble_eq_true rfl), (Nat.le_of_ble_eq_true rfl)⟩, rfl, rfl⟩ rfl (kw_h σ) rfl dX10_bake_2) (fun r u H locs hp hw => ?_)
      obtain ⟨h8, h9⟩ := hp
      have h8 := h8.symm
      have h9 := h9.symm
      subst h8
      subst h9
      refine W.eq (g2 := F0 m 5 ls [.ref (s_a σ i)]) rfl ?_
      refine lv_astore_n (lv' := [(3, .ref (s_a σ i)), (0, .ref (G 0)), (1, .int (nI i)), (2, .int ht)]) cx.x cx.b dX10_bake_5 rfl hl (by decide) rfl (fun ls hl => ?_)
      refine lv_aload_n cx.x cx.b dX10_bake_6 rfl (lv_at hl 0 rfl) ?_
      refine lv_ifnonnull (tgt := 13) cx.x cx.b dX10_bake_7 (by decide) ?_
      refine lv_iload_n cx.x cx.b dX10_bake_13 rfl (lv_at hl 3 rfl) ?_
      refine lv_iconst (v := 0) cx.x cx.b dX10_bake_14 (by decide) ?_
      refine lv_sipush (v := 400) cx.x cx.b dX10_bake_15 (by decide) ?_
      refine cgo_i cx hw (rS_i (n := 3) (As := [.int ht, .int 0, .int 400]) (rest := []) cx hw (c_X10_within l D G Q σ ht 0 400) (gd_S tw_102 tw_103 tw_1 tw_104) ⟨by decide +kernel, rfl, hl.1, (Nat.le_of_ble_eq_true rfl), ⟨(Nat.le_of_ble_eq_true rfl), (Nat.le_of_ble_eq_true rfl)⟩, ⟨(Nat.le_of_ble_eq_true rfl), (Nat.le_of_ble_eq_true rfl)⟩, rfl, rfl⟩ rfl dX10_bake_18) (fun r u H locs hp hw => ?_)
      obtain ⟨h8, h9⟩ := hp
      have h8 := h8.symm
      have h9 := h9.symm
      subst h8
      subst h9
      refine lv_if_ne (tgt := 27) cx.x cx.b dX10_bake_21 (by decide) (fun hb21 => absurd (wth_eq0.mpr hm) hb21) (fun hb21 => ?_)
      refine lv_bipush (v := (-102)) cx.x cx.b dX10_bake_24 (by decide) ?_
      exact ret_i σ cx hw (okA_of (by unfold aBake; rw [if_pos hv, if_neg hm])) dX10_bake_26 (Nat.le_of_ble_eq_true rfl) (Nat.le_of_ble_eq_true rfl)
  · have hv9 := okL_n hN9 hv
    refine lv_aload_n cx.x cx.b dX10_bake_0 rfl (lv_at hl 0 rfl) ?_
    refine lv_iload_n cx.x cx.b dX10_bake_1 rfl (lv_at hl 1 rfl) ?_
    refine cgo_r cx hw (rV_r (q0 := 0) (n := 1) (As := [.int lo]) (rest := []) cx hw (c_findLoaf_n l D G Q σ hN9 lo hv9) (gd_V tw_294 tw_296 ts_2 tw_1 tw_297) rfl ⟨by decide +kernel, rfl, hl.1, (Nat.le_of_ble_eq_true rfl), ⟨(Nat.le_of_ble_eq_true rfl), (Nat.le_of_ble_eq_true rfl)⟩, ⟨(Nat.le_of_ble_eq_true rfl), (Nat.le_of_ble_eq_true rfl)⟩, rfl, rfl⟩ rfl (kw_h σ) rfl dX10_bake_2) (fun r u H locs hp hw => ?_)
    obtain ⟨h8, h9⟩ := hp
    have h8 := h8.symm
    have h9 := h9.symm
    subst h8
    subst h9
    refine W.eq (g2 := F0 m 5 ls [.null]) rfl ?_
    refine lv_astore_nN (lv' := [(3, .null), (0, .ref (G 0)), (1, .int lo), (2, .int ht)]) cx.x cx.b dX10_bake_5 rfl hl (by decide) rfl (fun ls hl => ?_)
    refine lv_aload_nN cx.x cx.b dX10_bake_6 rfl (lv_at hl 0 rfl) ?_
    refine lv_ifnonnullN cx.x cx.b dX10_bake_7 ?_
    refine lv_bipush (v := (-101)) cx.x cx.b dX10_bake_10 (by decide) ?_
    exact ret_i σ cx hw (okA_of (by unfold aBake; rw [if_neg hv])) dX10_bake_12 (Nat.le_of_ble_eq_true rfl) (Nat.le_of_ble_eq_true rfl)
set_option maxHeartbeats 4000000 in
set_option maxRecDepth 100000 in
theorem c_X10_worth (l : Launch) (hl0 : l.stackTraces = false) (D : va_G) (G : Nat → Nat) (Q : Nat → ClassId) (σ : St) {b : Nat} (hI : Inv b σ) (lo : Int32) : XI l yX10_worth cX10_worth 3 .int ({ frames := 16, cells := 1, slots := 6, locals := 600 }) D cls (tyl Q) [.ref (G 0), .int lo] (kw G Q) (kw G Q σ) (okA (aWorth σ lo)) (exA eARI (aWorth σ lo)) 1 6 := by
  refine XI_of (by decide) (Nat.le_of_ble_eq_true rfl) ?_
  intro p e s m args below meth c A ls htab cx hw hl
  have hl : lv_has ls 3 [(0, .ref (G 0)), (1, .int lo)] := hl
  have hN9 := hI.n
  by_cases hv : okL σ lo
  · obtain ⟨i, hn, rfl⟩ := okL_i hN9 hv
    have hd := hI.k hn
    refine lv_aload_n cx.x cx.b dX10_worth_0 rfl (lv_at hl 0 rfl) ?_
    refine lv_iload_n cx.x cx.b dX10_worth_1 rfl (lv_at hl 1 rfl) ?_
    refine cgo_r cx hw (rV_r (q0 := 0) (n := 1) (As := [.int (nI i)]) (rest := []) cx hw (c_findLoaf_s l D G Q σ hN9 i hn) (gd_V tw_294 tw_296 ts_2 tw_1 tw_297) rfl ⟨by decide +kernel, rfl, hl.1, (Nat.le_of_ble_eq_true rfl), ⟨(Nat.le_of_ble_eq_true rfl), (Nat.le_of_ble_eq_true rfl)⟩, ⟨(Nat.le_of_ble_eq_true rfl), (Nat.le_of_ble_eq_true rfl)⟩, rfl, rfl⟩ rfl (kw_h σ) rfl dX10_worth_2) (fun r u H locs hp hw => ?_)
    obtain ⟨h8, h9⟩ := hp
    have h8 := h8.symm
    have h9 := h9.symm
    subst h8
    subst h9
    refine W.eq (g2 := F0 m 5 ls [.ref (s_a σ i)]) rfl ?_
    refine lv_astore_n (lv' := [(2, .ref (s_a σ i)), (0, .ref (G 0)), (1, .int (nI i))]) cx.x cx.b dX10_worth_5 rfl hl (by decide) rfl (fun ls hl => ?_)
    refine lv_aload_n cx.x cx.b dX10_worth_6 rfl (lv_at hl 0 rfl) ?_
    refine lv_ifnonnull (tgt := 15) cx.x cx.b dX10_worth_7 (by decide) ?_
    refine lv_aload_n cx.x cx.b dX10_worth_15 rfl (lv_at hl 0 rfl) ?_
    refine cgo_xi cx hw (dp_worth hl0 cx hw hn hd  ⟨(Nat.le_of_ble_eq_true rfl), (Nat.le_of_ble_eq_true rfl), (Nat.le_of_ble_eq_true rfl), (Nat.le_of_ble_eq_true rfl)⟩ hl.1 dX10_worth_16) (fun E ce q u H locs hp hw h1 h2 h3 => ?_) (fun r u H locs hp hw => ?_)
    · obtain ⟨g1, g2, g3⟩ := hp
      subst g3
      exact xout_i _ htab cx hw (exA_of (by unfold aWorth; rw [if_pos hv, cl20 hN9 hn, if_pos g1]) ⟨rfl, g2⟩) (Nat.le_of_ble_eq_true rfl) (Nat.le_of_ble_eq_true rfl) h1 h2 h3
    obtain ⟨g1, h8, h9⟩ := hp
    have h8 := h8.symm
    have h9 := h9.symm
    subst h8
    subst h9
    exact xret_i (rWorth (s_k σ i) i σ) cx hw (okA_of (by unfold aWorth; rw [if_pos hv, cl20 hN9 hn, if_neg g1])) dX10_worth_19 (Nat.le_of_ble_eq_true rfl) (Nat.le_of_ble_eq_true rfl)
  · have hv9 := okL_n hN9 hv
    refine lv_aload_n cx.x cx.b dX10_worth_0 rfl (lv_at hl 0 rfl) ?_
    refine lv_iload_n cx.x cx.b dX10_worth_1 rfl (lv_at hl 1 rfl) ?_
    refine cgo_r cx hw (rV_r (q0 := 0) (n := 1) (As := [.int lo]) (rest := []) cx hw (c_findLoaf_n l D G Q σ hN9 lo hv9) (gd_V tw_294 tw_296 ts_2 tw_1 tw_297) rfl ⟨by decide +kernel, rfl, hl.1, (Nat.le_of_ble_eq_true rfl), ⟨(Nat.le_of_ble_eq_true rfl), (Nat.le_of_ble_eq_true rfl)⟩, ⟨(Nat.le_of_ble_eq_true rfl), (Nat.le_of_ble_eq_true rfl)⟩, rfl, rfl⟩ rfl (kw_h σ) rfl dX10_worth_2) (fun r u H locs hp hw => ?_)
    obtain ⟨h8, h9⟩ := hp
    have h8 := h8.symm
    have h9 := h9.symm
    subst h8
    subst h9
    refine W.eq (g2 := F0 m 5 ls [.null]) rfl ?_
    refine lv_astore_nN (lv' := [(2, .null), (0, .ref (G 0)), (1, .int lo)]) cx.x cx.b dX10_worth_5 rfl hl (by decide) rfl (fun ls hl => ?_)
    refine lv_aload_nN cx.x cx.b dX10_worth_6 rfl (lv_at hl 0 rfl) ?_
    refine lv_ifnonnullN cx.x cx.b dX10_worth_7 ?_
    refine lv_bipush (v := (-101)) cx.x cx.b dX10_worth_10 (by decide) ?_
    refine lv_goto (tgt := 19) cx.x cx.b dX10_worth_12 (by decide) ?_
    exact xret_i σ cx hw (okA_of (by unfold aWorth; rw [if_neg hv])) dX10_worth_19 (Nat.le_of_ble_eq_true rfl) (Nat.le_of_ble_eq_true rfl)
set_option maxHeartbeats 4000000 in
set_option maxRecDepth 100000 in
theorem c_X10_priceOf (l : Launch) (hl0 : l.stackTraces = false) (D : va_G) (G : Nat → Nat) (Q : Nat → ClassId) (σ : St) (i : Nat) (hn : i < s_n σ) (hd : s_k σ i < 8) : XI l yX10_priceOf cX10_priceOf 2 .int ({ frames := 16, cells := 1, slots := 6, locals := 600 }) D cls (tyl Q) [.ref (s_a σ i)] (kw G Q) (kw G Q σ) (fun r u => ¬ fWorth (s_k σ i) i σ ∧ r = vCost (s_k σ i) i σ ∧ u = rWorth (s_k σ i) i σ) (fun E u => fWorth (s_k σ i) i σ ∧ E = "java/lang/ArithmeticException" ∧ u = rWorth (s_k σ i) i σ) 1 6 := by
  refine XI_of (by decide) (Nat.le_of_ble_eq_true rfl) ?_
  intro p e s m args below meth c A ls htab cx hw hl
  have hl : lv_has ls 2 [(0, .ref (s_a σ i))] := hl
  refine lv_aload_n cx.x cx.b dX10_priceOf_0 rfl (lv_at hl 0 rfl) ?_
  refine cgo_xi cx hw (dp_worth hl0 cx hw hn hd  ⟨(Nat.le_of_ble_eq_true rfl), (Nat.le_of_ble_eq_true rfl), (Nat.le_of_ble_eq_true rfl), (Nat.le_of_ble_eq_true rfl)⟩ hl.1 dX10_priceOf_1) (fun E ce q u H locs hp hw h1 h2 h3 => ?_) (fun r u H locs hp hw => ?_)
  · obtain ⟨g1, g2, g3⟩ := hp
    subst g3
    exact xout_i _ htab cx hw ⟨g1, g2, rfl⟩ (Nat.le_of_ble_eq_true rfl) (Nat.le_of_ble_eq_true rfl) h1 h2 h3
  obtain ⟨g1, h8, h9⟩ := hp
  have h8 := h8.symm
  have h9 := h9.symm
  subst h8
  subst h9
  refine lv_istore_n (lv' := [(1, .int (vWorth (s_k σ i) i σ)), (0, .ref (s_a σ i))]) cx.x cx.b dX10_priceOf_4 rfl hl (by decide) rfl (fun ls hl => ?_)
  refine lv_aload_n cx.x cx.b dX10_priceOf_5 rfl (lv_at hl 1 rfl) ?_
  refine gt_f (v := .int (nI (s_k σ i))) cx hw (13 + i) (kw_dg (geoW _ _ _) hn) (cls_d hd) (inD_all _ hd) 2 (by decide) tw_133 ⟨rfl, rfl, Or.inl rfl⟩ rfl dX10_priceOf_6 ?_
  refine lv_iconst (v := 5) cx.x cx.b dX10_priceOf_9 (by decide) ?_
  refine lv_icmp_ne (tgt := 20) cx.x cx.b dX10_priceOf_10 (by decide) (fun hb10 => ?_) (fun hb10 => ?_)
  · refine lv_iload_n cx.x cx.b dX10_priceOf_20 rfl (lv_at hl 0 rfl) ?_
    refine lv_iload_n cx.x cx.b dX10_priceOf_21 rfl (lv_at hl 0 rfl) ?_
    refine lv_bipush (v := 10) cx.x cx.b dX10_priceOf_22 (by decide) ?_
    refine lv_idiv cx.x cx.b dX10_priceOf_24 (by decide) ?_
    refine lv_iadd cx.x cx.b dX10_priceOf_25 ?_
    exact xret_i (rWorth (s_k σ i) i σ) cx hw ⟨g1, (if_neg (fun h => hb10 ((k5 hd).mpr h))).symm, rfl⟩ dX10_priceOf_26 (Nat.le_of_ble_eq_true rfl) (Nat.le_of_ble_eq_true rfl)
  · refine lv_iload_n cx.x cx.b dX10_priceOf_13 rfl (lv_at hl 0 rfl) ?_
    refine lv_bipush (v := 7) cx.x cx.b dX10_priceOf_14 (by decide) ?_
    refine lv_iadd cx.x cx.b dX10_priceOf_16 ?_
    refine lv_goto (tgt := 26) cx.x cx.b dX10_priceOf_17 (by decide) ?_
    exact xret_i (rWorth (s_k σ i) i σ) cx hw ⟨g1, (if_pos ((k5 hd).mp hb10)).symm, rfl⟩ dX10_priceOf_26 (Nat.le_of_ble_eq_true rfl) (Nat.le_of_ble_eq_true rfl)
set_option maxHeartbeats 4000000 in
set_option maxRecDepth 100000 in
theorem c_X10_cost (l : Launch) (hl0 : l.stackTraces = false) (D : va_G) (G : Nat → Nat) (Q : Nat → ClassId) (σ : St) {b : Nat} (hI : Inv b σ) (lo : Int32) : XI l yX10_cost cX10_cost 3 .int ({ frames := 17, cells := 1, slots := 6, locals := 621 }) D cls (tyl Q) [.ref (G 0), .int lo] (kw G Q) (kw G Q σ) (okA (aCost σ lo)) (exA eARI (aCost σ lo)) 1 6 := by
  refine XI_of (by decide) (Nat.le_of_ble_eq_true rfl) ?_
  intro p e s m args below meth c A ls htab cx hw hl
  have hl : lv_has ls 3 [(0, .ref (G 0)), (1, .int lo)] := hl
  have hN9 := hI.n
  by_cases hv : okL σ lo
  · obtain ⟨i, hn, rfl⟩ := okL_i hN9 hv
    have hd := hI.k hn
    by_cases hm : sold (s_k σ i)
    · refine lv_aload_n cx.x cx.b dX10_cost_0 rfl (lv_at hl 0 rfl) ?_
      refine lv_iload_n cx.x cx.b dX10_cost_1 rfl (lv_at hl 1 rfl) ?_
      refine cgo_r cx hw (rV_r (q0 := 0) (n := 1) (As := [.int (nI i)]) (rest := []) cx hw (c_findLoaf_s l D G Q σ hN9 i hn) (gd_V tw_294 tw_296 ts_2 tw_1 tw_297) rfl ⟨by decide +kernel, rfl, hl.1, (Nat.le_of_ble_eq_true rfl), ⟨(Nat.le_of_ble_eq_true rfl), (Nat.le_of_ble_eq_true rfl)⟩, ⟨(Nat.le_of_ble_eq_true rfl), (Nat.le_of_ble_eq_true rfl)⟩, rfl, rfl⟩ rfl (kw_h σ) rfl dX10_cost_2) (fun r u H locs hp hw => ?_)
      obtain ⟨h8, h9⟩ := hp
      have h8 := h8.symm
      have h9 := h9.symm
      subst h8
      subst h9
      refine W.eq (g2 := F0 m 5 ls [.ref (s_a σ i)]) rfl ?_
      refine lv_astore_n (lv' := [(2, .ref (s_a σ i)), (0, .ref (G 0)), (1, .int (nI i))]) cx.x cx.b dX10_cost_5 rfl hl (by decide) rfl (fun ls hl => ?_)
      refine lv_aload_n cx.x cx.b dX10_cost_6 rfl (lv_at hl 0 rfl) ?_
      refine lv_ifnonnull (tgt := 13) cx.x cx.b dX10_cost_7 (by decide) ?_
      refine lv_aload_n cx.x cx.b dX10_cost_13 rfl (lv_at hl 0 rfl) ?_
      refine cgo_i cx hw (rS_i (n := 1) (As := [.ref (s_a σ i)]) (rest := []) cx hw (c_X10_isSold l D G Q σ i hn hd) (gd_S tw_741 tw_742 tw_1 tw_743) ⟨by decide +kernel, rfl, hl.1, (Nat.le_of_ble_eq_true rfl), ⟨(Nat.le_of_ble_eq_true rfl), (Nat.le_of_ble_eq_true rfl)⟩, ⟨(Nat.le_of_ble_eq_true rfl), (Nat.le_of_ble_eq_true rfl)⟩, rfl, rfl⟩ rfl dX10_cost_14) (fun r u H locs hp hw => ?_)
      obtain ⟨h8, h9⟩ := hp
      have h8 := h8.symm
      have h9 := h9.symm
      subst h8
      subst h9
      refine lv_if_eq (tgt := 27) cx.x cx.b dX10_cost_17 (by decide) (fun hb17 => absurd hm ((sold_w hd).mp hb17)) (fun hb17 => ?_)
      refine lv_aload_n cx.x cx.b dX10_cost_20 rfl (lv_at hl 0 rfl) ?_
      refine cgo_xi cx hw (rS_xi (n := 1) (As := [.ref (s_a σ i)]) (rest := []) cx hw (c_X10_priceOf l hl0 D G Q σ i hn hd) (gd_S tw_744 tw_745 tw_1 tw_746) ⟨by decide +kernel, rfl, hl.1, (Nat.le_of_ble_eq_true rfl), ⟨(Nat.le_of_ble_eq_true rfl), (Nat.le_of_ble_eq_true rfl)⟩, ⟨(Nat.le_of_ble_eq_true rfl), (Nat.le_of_ble_eq_true rfl)⟩, rfl, rfl⟩ rfl dX10_cost_21) (fun E ce q u H locs hp hw h1 h2 h3 => ?_) (fun r u H locs hp hw => ?_)
      · obtain ⟨g1, g2, g3⟩ := hp
        subst g3
        exact xout_i _ htab cx hw (exA_of (by unfold aCost; rw [if_pos hv, cl20 hN9 hn, if_pos hm, if_pos g1]) ⟨rfl, g2⟩) (Nat.le_of_ble_eq_true rfl) (Nat.le_of_ble_eq_true rfl) h1 h2 h3
      obtain ⟨g1, h8, h9⟩ := hp
      have h8 := h8.symm
      have h9 := h9.symm
      subst h8
      subst h9
      refine lv_goto (tgt := 29) cx.x cx.b dX10_cost_24 (by decide) ?_
      exact xret_i (rWorth (s_k σ i) i σ) cx hw (okA_of (by unfold aCost; rw [if_pos hv, cl20 hN9 hn, if_pos hm, if_neg g1])) dX10_cost_29 (Nat.le_of_ble_eq_true rfl) (Nat.le_of_ble_eq_true rfl)
    · refine lv_aload_n cx.x cx.b dX10_cost_0 rfl (lv_at hl 0 rfl) ?_
      refine lv_iload_n cx.x cx.b dX10_cost_1 rfl (lv_at hl 1 rfl) ?_
      refine cgo_r cx hw (rV_r (q0 := 0) (n := 1) (As := [.int (nI i)]) (rest := []) cx hw (c_findLoaf_s l D G Q σ hN9 i hn) (gd_V tw_294 tw_296 ts_2 tw_1 tw_297) rfl ⟨by decide +kernel, rfl, hl.1, (Nat.le_of_ble_eq_true rfl), ⟨(Nat.le_of_ble_eq_true rfl), (Nat.le_of_ble_eq_true rfl)⟩, ⟨(Nat.le_of_ble_eq_true rfl), (Nat.le_of_ble_eq_true rfl)⟩, rfl, rfl⟩ rfl (kw_h σ) rfl dX10_cost_2) (fun r u H locs hp hw => ?_)
      obtain ⟨h8, h9⟩ := hp
      have h8 := h8.symm
      have h9 := h9.symm
      subst h8
      subst h9
      refine W.eq (g2 := F0 m 5 ls [.ref (s_a σ i)]) rfl ?_
      refine lv_astore_n (lv' := [(2, .ref (s_a σ i)), (0, .ref (G 0)), (1, .int (nI i))]) cx.x cx.b dX10_cost_5 rfl hl (by decide) rfl (fun ls hl => ?_)
      refine lv_aload_n cx.x cx.b dX10_cost_6 rfl (lv_at hl 0 rfl) ?_
      refine lv_ifnonnull (tgt := 13) cx.x cx.b dX10_cost_7 (by decide) ?_
      refine lv_aload_n cx.x cx.b dX10_cost_13 rfl (lv_at hl 0 rfl) ?_
      refine cgo_i cx hw (rS_i (n := 1) (As := [.ref (s_a σ i)]) (rest := []) cx hw (c_X10_isSold l D G Q σ i hn hd) (gd_S tw_741 tw_742 tw_1 tw_743) ⟨by decide +kernel, rfl, hl.1, (Nat.le_of_ble_eq_true rfl), ⟨(Nat.le_of_ble_eq_true rfl), (Nat.le_of_ble_eq_true rfl)⟩, ⟨(Nat.le_of_ble_eq_true rfl), (Nat.le_of_ble_eq_true rfl)⟩, rfl, rfl⟩ rfl dX10_cost_14) (fun r u H locs hp hw => ?_)
      obtain ⟨h8, h9⟩ := hp
      have h8 := h8.symm
      have h9 := h9.symm
      subst h8
      subst h9
      refine lv_if_eq (tgt := 27) cx.x cx.b dX10_cost_17 (by decide) (fun hb17 => ?_) (fun hb17 => absurd ((sold_w hd).mpr hm) hb17)
      refine lv_bipush (v := (-103)) cx.x cx.b dX10_cost_27 (by decide) ?_
      exact xret_i σ cx hw (okA_of (by unfold aCost; rw [if_pos hv, cl20 hN9 hn, if_neg hm])) dX10_cost_29 (Nat.le_of_ble_eq_true rfl) (Nat.le_of_ble_eq_true rfl)
  · have hv9 := okL_n hN9 hv
    refine lv_aload_n cx.x cx.b dX10_cost_0 rfl (lv_at hl 0 rfl) ?_
    refine lv_iload_n cx.x cx.b dX10_cost_1 rfl (lv_at hl 1 rfl) ?_
    refine cgo_r cx hw (rV_r (q0 := 0) (n := 1) (As := [.int lo]) (rest := []) cx hw (c_findLoaf_n l D G Q σ hN9 lo hv9) (gd_V tw_294 tw_296 ts_2 tw_1 tw_297) rfl ⟨by decide +kernel, rfl, hl.1, (Nat.le_of_ble_eq_true rfl), ⟨(Nat.le_of_ble_eq_true rfl), (Nat.le_of_ble_eq_true rfl)⟩, ⟨(Nat.le_of_ble_eq_true rfl), (Nat.le_of_ble_eq_true rfl)⟩, rfl, rfl⟩ rfl (kw_h σ) rfl dX10_cost_2) (fun r u H locs hp hw => ?_)
    obtain ⟨h8, h9⟩ := hp
    have h8 := h8.symm
    have h9 := h9.symm
    subst h8
    subst h9
    refine W.eq (g2 := F0 m 5 ls [.null]) rfl ?_
    refine lv_astore_nN (lv' := [(2, .null), (0, .ref (G 0)), (1, .int lo)]) cx.x cx.b dX10_cost_5 rfl hl (by decide) rfl (fun ls hl => ?_)
    refine lv_aload_nN cx.x cx.b dX10_cost_6 rfl (lv_at hl 0 rfl) ?_
    refine lv_ifnonnullN cx.x cx.b dX10_cost_7 ?_
    refine lv_bipush (v := (-101)) cx.x cx.b dX10_cost_10 (by decide) ?_
    exact xret_i σ cx hw (okA_of (by unfold aCost; rw [if_neg hv])) dX10_cost_12 (Nat.le_of_ble_eq_true rfl) (Nat.le_of_ble_eq_true rfl)
set_option maxHeartbeats 4000000 in
set_option maxRecDepth 100000 in
theorem c_X10_change (l : Launch) (hl0 : l.stackTraces = false) (D : va_G) (G : Nat → Nat) (Q : Nat → ClassId) (σ : St) {b : Nat} (hI : Inv b σ) (lo co : Int32) : XI l yX10_change cX10_change 5 .int ({ frames := 17, cells := 1, slots := 6, locals := 621 }) D cls (tyl Q) [.ref (G 0), .int lo, .int co] (kw G Q) (kw G Q σ) (okA (aChange σ lo co)) (exA eARI (aChange σ lo co)) 1 6 := by
  refine XI_of (by decide) (Nat.le_of_ble_eq_true rfl) ?_
  intro p e s m args below meth c A ls htab cx hw hl
  have hl : lv_has ls 5 [(0, .ref (G 0)), (1, .int lo), (2, .int co)] := hl
  have hN9 := hI.n
  by_cases hv : okL σ lo
  · obtain ⟨i, hn, rfl⟩ := okL_i hN9 hv
    have hd := hI.k hn
    by_cases hc : 0 ≤ co ∧ co ≤ 100000
    · by_cases hm : sold (s_k σ i)
      · refine lv_aload_n cx.x cx.b dX10_change_0 rfl (lv_at hl 0 rfl) ?_
        refine lv_iload_n cx.x cx.b dX10_change_1 rfl (lv_at hl 1 rfl) ?_
        refine cgo_r cx hw (rV_r (q0 := 0) (n := 1) (As := [.int (nI i)]) (rest := []) cx hw (c_findLoaf_s l D G Q σ hN9 i hn) (gd_V tw_294 tw_296 ts_2 tw_1 tw_297) rfl ⟨by decide +kernel, rfl, hl.1, (Nat.le_of_ble_eq_true rfl), ⟨(Nat.le_of_ble_eq_true rfl), (Nat.le_of_ble_eq_true rfl)⟩, ⟨(Nat.le_of_ble_eq_true rfl), (Nat.le_of_ble_eq_true rfl)⟩, rfl, rfl⟩ rfl (kw_h σ) rfl dX10_change_2) (fun r u H locs hp hw => ?_)
        obtain ⟨h8, h9⟩ := hp
        have h8 := h8.symm
        have h9 := h9.symm
        subst h8
        subst h9
        refine W.eq (g2 := F0 m 5 ls [.ref (s_a σ i)]) rfl ?_
        refine lv_astore_n (lv' := [(3, .ref (s_a σ i)), (0, .ref (G 0)), (1, .int (nI i)), (2, .int co)]) cx.x cx.b dX10_change_5 rfl hl (by decide) rfl (fun ls hl => ?_)
        refine lv_aload_n cx.x cx.b dX10_change_6 rfl (lv_at hl 0 rfl) ?_
        refine lv_ifnonnull (tgt := 13) cx.x cx.b dX10_change_7 (by decide) ?_
        refine lv_iload_n cx.x cx.b dX10_change_13 rfl (lv_at hl 3 rfl) ?_
        refine lv_iconst (v := 0) cx.x cx.b dX10_change_14 (by decide) ?_
        refine lv_ldc (v := 100000) cx.x cx.b cx.ow (cx.ts _ tw_754) dX10_change_15 ?_
        refine cgo_i cx hw (rS_i (n := 3) (As := [.int co, .int 0, .int 100000]) (rest := []) cx hw (c_X10_within l D G Q σ co 0 100000) (gd_S tw_102 tw_103 tw_1 tw_104) ⟨by decide +kernel, rfl, hl.1, (Nat.le_of_ble_eq_true rfl), ⟨(Nat.le_of_ble_eq_true rfl), (Nat.le_of_ble_eq_true rfl)⟩, ⟨(Nat.le_of_ble_eq_true rfl), (Nat.le_of_ble_eq_true rfl)⟩, rfl, rfl⟩ rfl dX10_change_17) (fun r u H locs hp hw => ?_)
        obtain ⟨h8, h9⟩ := hp
        have h8 := h8.symm
        have h9 := h9.symm
        subst h8
        subst h9
        refine lv_if_ne (tgt := 26) cx.x cx.b dX10_change_20 (by decide) (fun hb20 => ?_) (fun hb20 => absurd hb20 (by rw [wth_eq0]; exact fun h => h hc))
        refine lv_aload_n cx.x cx.b dX10_change_26 rfl (lv_at hl 0 rfl) ?_
        refine cgo_i cx hw (rS_i (n := 1) (As := [.ref (s_a σ i)]) (rest := []) cx hw (c_X10_isSold l D G Q σ i hn hd) (gd_S tw_741 tw_742 tw_1 tw_743) ⟨by decide +kernel, rfl, hl.1, (Nat.le_of_ble_eq_true rfl), ⟨(Nat.le_of_ble_eq_true rfl), (Nat.le_of_ble_eq_true rfl)⟩, ⟨(Nat.le_of_ble_eq_true rfl), (Nat.le_of_ble_eq_true rfl)⟩, rfl, rfl⟩ rfl dX10_change_27) (fun r u H locs hp hw => ?_)
        obtain ⟨h8, h9⟩ := hp
        have h8 := h8.symm
        have h9 := h9.symm
        subst h8
        subst h9
        refine lv_if_ne (tgt := 36) cx.x cx.b dX10_change_30 (by decide) (fun hb30 => ?_) (fun hb30 => absurd hm ((sold_w hd).mp hb30))
        refine lv_iload_n cx.x cx.b dX10_change_36 rfl (lv_at hl 3 rfl) ?_
        refine lv_aload_n cx.x cx.b dX10_change_37 rfl (lv_at hl 0 rfl) ?_
        refine cgo_xi cx hw (rS_xi (n := 1) (As := [.ref (s_a σ i)]) (rest := [.int co]) cx hw (c_X10_priceOf l hl0 D G Q σ i hn hd) (gd_S tw_744 tw_745 tw_1 tw_746) ⟨by decide +kernel, rfl, hl.1, (Nat.le_of_ble_eq_true rfl), ⟨(Nat.le_of_ble_eq_true rfl), (Nat.le_of_ble_eq_true rfl)⟩, ⟨(Nat.le_of_ble_eq_true rfl), (Nat.le_of_ble_eq_true rfl)⟩, rfl, rfl⟩ rfl dX10_change_38) (fun E ce q u H locs hp hw h1 h2 h3 => ?_) (fun r u H locs hp hw => ?_)
        · obtain ⟨g1, g2, g3⟩ := hp
          subst g3
          exact xout_i _ htab cx hw (exA_of (by unfold aChange; rw [if_pos hv, if_pos hc, cl20 hN9 hn, if_pos hm, if_pos g1]) ⟨rfl, g2⟩) (Nat.le_of_ble_eq_true rfl) (Nat.le_of_ble_eq_true rfl) h1 h2 h3
        obtain ⟨g1, h8, h9⟩ := hp
        have h8 := h8.symm
        have h9 := h9.symm
        subst h8
        subst h9
        refine lv_isub cx.x cx.b dX10_change_41 ?_
        refine lv_istore (lv' := [(4, .int (co - (vCost (s_k σ i) i σ))), (3, .ref (s_a σ i)), (0, .ref (G 0)), (1, .int (nI i)), (2, .int co)]) cx.x cx.b dX10_change_42 hl (by decide) rfl (fun ls hl => ?_)
        refine lv_iload cx.x cx.b dX10_change_44 (lv_at hl 0 rfl) ?_
        refine lv_if_ge (tgt := 53) cx.x cx.b dX10_change_46 (by decide) (fun hb46 => ?_) (fun hb46 => ?_)
        · refine lv_iload cx.x cx.b dX10_change_53 (lv_at hl 0 rfl) ?_
          exact xret_i (rWorth (s_k σ i) i σ) cx hw (okA_of (by unfold aChange; rw [if_pos hv, if_pos hc, cl20 hN9 hn, if_pos hm, if_neg g1, chg, if_pos hb46])) dX10_change_55 (Nat.le_of_ble_eq_true rfl) (Nat.le_of_ble_eq_true rfl)
        · refine lv_iconst (v := (-1)) cx.x cx.b dX10_change_49 (by decide) ?_
          refine lv_goto (tgt := 55) cx.x cx.b dX10_change_50 (by decide) ?_
          exact xret_i (rWorth (s_k σ i) i σ) cx hw (okA_of (by unfold aChange; rw [if_pos hv, if_pos hc, cl20 hN9 hn, if_pos hm, if_neg g1, chg, if_neg hb46])) dX10_change_55 (Nat.le_of_ble_eq_true rfl) (Nat.le_of_ble_eq_true rfl)
      · refine lv_aload_n cx.x cx.b dX10_change_0 rfl (lv_at hl 0 rfl) ?_
        refine lv_iload_n cx.x cx.b dX10_change_1 rfl (lv_at hl 1 rfl) ?_
        refine cgo_r cx hw (rV_r (q0 := 0) (n := 1) (As := [.int (nI i)]) (rest := []) cx hw (c_findLoaf_s l D G Q σ hN9 i hn) (gd_V tw_294 tw_296 ts_2 tw_1 tw_297) rfl ⟨by decide +kernel, rfl, hl.1, (Nat.le_of_ble_eq_true rfl), ⟨(Nat.le_of_ble_eq_true rfl), (Nat.le_of_ble_eq_true rfl)⟩, ⟨(Nat.le_of_ble_eq_true rfl), (Nat.le_of_ble_eq_true rfl)⟩, rfl, rfl⟩ rfl (kw_h σ) rfl dX10_change_2) (fun r u H locs hp hw => ?_)
        obtain ⟨h8, h9⟩ := hp
        have h8 := h8.symm
        have h9 := h9.symm
        subst h8
        subst h9
        refine W.eq (g2 := F0 m 5 ls [.ref (s_a σ i)]) rfl ?_
        refine lv_astore_n (lv' := [(3, .ref (s_a σ i)), (0, .ref (G 0)), (1, .int (nI i)), (2, .int co)]) cx.x cx.b dX10_change_5 rfl hl (by decide) rfl (fun ls hl => ?_)
        refine lv_aload_n cx.x cx.b dX10_change_6 rfl (lv_at hl 0 rfl) ?_
        refine lv_ifnonnull (tgt := 13) cx.x cx.b dX10_change_7 (by decide) ?_
        refine lv_iload_n cx.x cx.b dX10_change_13 rfl (lv_at hl 3 rfl) ?_
        refine lv_iconst (v := 0) cx.x cx.b dX10_change_14 (by decide) ?_
        refine lv_ldc (v := 100000) cx.x cx.b cx.ow (cx.ts _ tw_754) dX10_change_15 ?_
        refine cgo_i cx hw (rS_i (n := 3) (As := [.int co, .int 0, .int 100000]) (rest := []) cx hw (c_X10_within l D G Q σ co 0 100000) (gd_S tw_102 tw_103 tw_1 tw_104) ⟨by decide +kernel, rfl, hl.1, (Nat.le_of_ble_eq_true rfl), ⟨(Nat.le_of_ble_eq_true rfl), (Nat.le_of_ble_eq_true rfl)⟩, ⟨(Nat.le_of_ble_eq_true rfl), (Nat.le_of_ble_eq_true rfl)⟩, rfl, rfl⟩ rfl dX10_change_17) (fun r u H locs hp hw => ?_)
        obtain ⟨h8, h9⟩ := hp
        have h8 := h8.symm
        have h9 := h9.symm
        subst h8
        subst h9
        refine lv_if_ne (tgt := 26) cx.x cx.b dX10_change_20 (by decide) (fun hb20 => ?_) (fun hb20 => absurd hb20 (by rw [wth_eq0]; exact fun h => h hc))
        refine lv_aload_n cx.x cx.b dX10_change_26 rfl (lv_at hl 0 rfl) ?_
        refine cgo_i cx hw (rS_i (n := 1) (As := [.ref (s_a σ i)]) (rest := []) cx hw (c_X10_isSold l D G Q σ i hn hd) (gd_S tw_741 tw_742 tw_1 tw_743) ⟨by decide +kernel, rfl, hl.1, (Nat.le_of_ble_eq_true rfl), ⟨(Nat.le_of_ble_eq_true rfl), (Nat.le_of_ble_eq_true rfl)⟩, ⟨(Nat.le_of_ble_eq_true rfl), (Nat.le_of_ble_eq_true rfl)⟩, rfl, rfl⟩ rfl dX10_change_27) (fun r u H locs hp hw => ?_)
        obtain ⟨h8, h9⟩ := hp
        have h8 := h8.symm
        have h9 := h9.symm
        subst h8
        subst h9
        refine lv_if_ne (tgt := 36) cx.x cx.b dX10_change_30 (by decide) (fun hb30 => absurd ((sold_w hd).mpr hm) hb30) (fun hb30 => ?_)
        refine lv_bipush (v := (-103)) cx.x cx.b dX10_change_33 (by decide) ?_
        exact xret_i σ cx hw (okA_of (by unfold aChange; rw [if_pos hv, if_pos hc, cl20 hN9 hn, if_neg hm])) dX10_change_35 (Nat.le_of_ble_eq_true rfl) (Nat.le_of_ble_eq_true rfl)
    · refine lv_aload_n cx.x cx.b dX10_change_0 rfl (lv_at hl 0 rfl) ?_
      refine lv_iload_n cx.x cx.b dX10_change_1 rfl (lv_at hl 1 rfl) ?_
      refine cgo_r cx hw (rV_r (q0 := 0) (n := 1) (As := [.int (nI i)]) (rest := []) cx hw (c_findLoaf_s l D G Q σ hN9 i hn) (gd_V tw_294 tw_296 ts_2 tw_1 tw_297) rfl ⟨by decide +kernel, rfl, hl.1, (Nat.le_of_ble_eq_true rfl), ⟨(Nat.le_of_ble_eq_true rfl), (Nat.le_of_ble_eq_true rfl)⟩, ⟨(Nat.le_of_ble_eq_true rfl), (Nat.le_of_ble_eq_true rfl)⟩, rfl, rfl⟩ rfl (kw_h σ) rfl dX10_change_2) (fun r u H locs hp hw => ?_)
      obtain ⟨h8, h9⟩ := hp
      have h8 := h8.symm
      have h9 := h9.symm
      subst h8
      subst h9
      refine W.eq (g2 := F0 m 5 ls [.ref (s_a σ i)]) rfl ?_
      refine lv_astore_n (lv' := [(3, .ref (s_a σ i)), (0, .ref (G 0)), (1, .int (nI i)), (2, .int co)]) cx.x cx.b dX10_change_5 rfl hl (by decide) rfl (fun ls hl => ?_)
      refine lv_aload_n cx.x cx.b dX10_change_6 rfl (lv_at hl 0 rfl) ?_
      refine lv_ifnonnull (tgt := 13) cx.x cx.b dX10_change_7 (by decide) ?_
      refine lv_iload_n cx.x cx.b dX10_change_13 rfl (lv_at hl 3 rfl) ?_
      refine lv_iconst (v := 0) cx.x cx.b dX10_change_14 (by decide) ?_
      refine lv_ldc (v := 100000) cx.x cx.b cx.ow (cx.ts _ tw_754) dX10_change_15 ?_
      refine cgo_i cx hw (rS_i (n := 3) (As := [.int co, .int 0, .int 100000]) (rest := []) cx hw (c_X10_within l D G Q σ co 0 100000) (gd_S tw_102 tw_103 tw_1 tw_104) ⟨by decide +kernel, rfl, hl.1, (Nat.le_of_ble_eq_true rfl), ⟨(Nat.le_of_ble_eq_true rfl), (Nat.le_of_ble_eq_true rfl)⟩, ⟨(Nat.le_of_ble_eq_true rfl), (Nat.le_of_ble_eq_true rfl)⟩, rfl, rfl⟩ rfl dX10_change_17) (fun r u H locs hp hw => ?_)
      obtain ⟨h8, h9⟩ := hp
      have h8 := h8.symm
      have h9 := h9.symm
      subst h8
      subst h9
      refine lv_if_ne (tgt := 26) cx.x cx.b dX10_change_20 (by decide) (fun hb20 => absurd (wth_eq0.mpr hc) hb20) (fun hb20 => ?_)
      refine lv_bipush (v := (-102)) cx.x cx.b dX10_change_23 (by decide) ?_
      exact xret_i σ cx hw (okA_of (by unfold aChange; rw [if_pos hv, if_neg hc])) dX10_change_25 (Nat.le_of_ble_eq_true rfl) (Nat.le_of_ble_eq_true rfl)
  · have hv9 := okL_n hN9 hv
    refine lv_aload_n cx.x cx.b dX10_change_0 rfl (lv_at hl 0 rfl) ?_
    refine lv_iload_n cx.x cx.b dX10_change_1 rfl (lv_at hl 1 rfl) ?_
    refine cgo_r cx hw (rV_r (q0 := 0) (n := 1) (As := [.int lo]) (rest := []) cx hw (c_findLoaf_n l D G Q σ hN9 lo hv9) (gd_V tw_294 tw_296 ts_2 tw_1 tw_297) rfl ⟨by decide +kernel, rfl, hl.1, (Nat.le_of_ble_eq_true rfl), ⟨(Nat.le_of_ble_eq_true rfl), (Nat.le_of_ble_eq_true rfl)⟩, ⟨(Nat.le_of_ble_eq_true rfl), (Nat.le_of_ble_eq_true rfl)⟩, rfl, rfl⟩ rfl (kw_h σ) rfl dX10_change_2) (fun r u H locs hp hw => ?_)
    obtain ⟨h8, h9⟩ := hp
    have h8 := h8.symm
    have h9 := h9.symm
    subst h8
    subst h9
    refine W.eq (g2 := F0 m 5 ls [.null]) rfl ?_
    refine lv_astore_nN (lv' := [(3, .null), (0, .ref (G 0)), (1, .int lo), (2, .int co)]) cx.x cx.b dX10_change_5 rfl hl (by decide) rfl (fun ls hl => ?_)
    refine lv_aload_nN cx.x cx.b dX10_change_6 rfl (lv_at hl 0 rfl) ?_
    refine lv_ifnonnullN cx.x cx.b dX10_change_7 ?_
    refine lv_bipush (v := (-101)) cx.x cx.b dX10_change_10 (by decide) ?_
    exact xret_i σ cx hw (okA_of (by unfold aChange; rw [if_neg hv])) dX10_change_12 (Nat.le_of_ble_eq_true rfl) (Nat.le_of_ble_eq_true rfl)
set_option maxHeartbeats 4000000 in
set_option maxRecDepth 100000 in
theorem c_X10_at (l : Launch) (D : va_G) (G : Nat → Nat) (Q : Nat → ClassId) (σ : St) (ks pl : Int32) : MI l yX10_at cX10_at 4 .int ({ frames := 2, cells := 0, slots := 0, locals := 43 }) D cls (tyl Q) [.ref (G 0), .int ks, .int pl] (kw G Q) (kw G Q σ) (okA (aAt σ ks pl)) 0 0 := by
  refine MI_of (by decide) (Nat.le_of_ble_eq_true rfl) ?_
  intro p e s m args below meth c A ls cx hw hl
  have hl : lv_has ls 4 [(0, .ref (G 0)), (1, .int ks), (2, .int pl)] := hl
  by_cases hv : okS ks
  · obtain ⟨k, hk, rfl⟩ := okS_k hv
    refine lv_aload_n cx.x cx.b dX10_at_0 rfl (lv_at hl 0 rfl) ?_
    refine lv_iload_n cx.x cx.b dX10_at_1 rfl (lv_at hl 1 rfl) ?_
    refine cgo_r cx hw (rV_r (q0 := 0) (n := 1) (As := [.int (nI k)]) (rest := []) cx hw (c_findShelf_s l D G Q σ k hk) (gd_V tw_278 tw_280 ts_1 tw_1 tw_281) rfl ⟨by decide +kernel, rfl, hl.1, (Nat.le_of_ble_eq_true rfl), ⟨(Nat.le_of_ble_eq_true rfl), (Nat.le_of_ble_eq_true rfl)⟩, ⟨(Nat.le_of_ble_eq_true rfl), (Nat.le_of_ble_eq_true rfl)⟩, rfl, rfl⟩ rfl (kw_h σ) rfl dX10_at_2) (fun r u H locs hp hw => ?_)
    obtain ⟨h8, h9⟩ := hp
    have h8 := h8.symm
    have h9 := h9.symm
    subst h8
    subst h9
    refine W.eq (g2 := F0 m 5 ls [.ref (G (5 + k))]) rfl ?_
    refine lv_astore_n (lv' := [(3, .ref (G (5 + k))), (0, .ref (G 0)), (1, .int (nI k)), (2, .int pl)]) cx.x cx.b dX10_at_5 rfl hl (by decide) rfl (fun ls hl => ?_)
    refine lv_aload_n cx.x cx.b dX10_at_6 rfl (lv_at hl 0 rfl) ?_
    refine lv_ifnonnull (tgt := 15) cx.x cx.b dX10_at_7 (by decide) ?_
    refine lv_aload_n cx.x cx.b dX10_at_15 rfl (lv_at hl 0 rfl) ?_
    refine lv_iload_n cx.x cx.b dX10_at_16 rfl (lv_at hl 3 rfl) ?_
    refine cgo_i cx hw (rV_i (q0 := (5 + k)) (n := 1) (As := [.int pl]) (rest := []) cx hw (c_X7_loafIn l D G Q σ k hk pl) (gd_V tw_382 tw_383 tw_384 tw_3 tw_385) rfl ⟨by decide +kernel, rfl, hl.1, (Nat.le_of_ble_eq_true rfl), ⟨(Nat.le_of_ble_eq_true rfl), (Nat.le_of_ble_eq_true rfl)⟩, ⟨(Nat.le_of_ble_eq_true rfl), (Nat.le_of_ble_eq_true rfl)⟩, rfl, rfl⟩ rfl (kw_s σ hk) rfl dX10_at_17) (fun r u H locs hp hw => ?_)
    obtain ⟨h8, h9⟩ := hp
    have h8 := h8.symm
    have h9 := h9.symm
    subst h8
    subst h9
    exact ret_i σ cx hw (okA_of (by unfold aAt; rw [if_pos hv, cl4 hk])) dX10_at_20 (Nat.le_of_ble_eq_true rfl) (Nat.le_of_ble_eq_true rfl)
  · have hs9 := okS_n hv
    refine lv_aload_n cx.x cx.b dX10_at_0 rfl (lv_at hl 0 rfl) ?_
    refine lv_iload_n cx.x cx.b dX10_at_1 rfl (lv_at hl 1 rfl) ?_
    refine cgo_r cx hw (rV_r (q0 := 0) (n := 1) (As := [.int ks]) (rest := []) cx hw (c_findShelf_n l D G Q σ ks hs9) (gd_V tw_278 tw_280 ts_1 tw_1 tw_281) rfl ⟨by decide +kernel, rfl, hl.1, (Nat.le_of_ble_eq_true rfl), ⟨(Nat.le_of_ble_eq_true rfl), (Nat.le_of_ble_eq_true rfl)⟩, ⟨(Nat.le_of_ble_eq_true rfl), (Nat.le_of_ble_eq_true rfl)⟩, rfl, rfl⟩ rfl (kw_h σ) rfl dX10_at_2) (fun r u H locs hp hw => ?_)
    obtain ⟨h8, h9⟩ := hp
    have h8 := h8.symm
    have h9 := h9.symm
    subst h8
    subst h9
    refine W.eq (g2 := F0 m 5 ls [.null]) rfl ?_
    refine lv_astore_nN (lv' := [(3, .null), (0, .ref (G 0)), (1, .int ks), (2, .int pl)]) cx.x cx.b dX10_at_5 rfl hl (by decide) rfl (fun ls hl => ?_)
    refine lv_aload_nN cx.x cx.b dX10_at_6 rfl (lv_at hl 0 rfl) ?_
    refine lv_ifnonnullN cx.x cx.b dX10_at_7 ?_
    refine lv_bipush (v := (-102)) cx.x cx.b dX10_at_10 (by decide) ?_
    refine lv_goto (tgt := 20) cx.x cx.b dX10_at_12 (by decide) ?_
    exact ret_i σ cx hw (okA_of (by unfold aAt; rw [if_neg hv])) dX10_at_20 (Nat.le_of_ble_eq_true rfl) (Nat.le_of_ble_eq_true rfl)
set_option maxHeartbeats 4000000 in
set_option maxRecDepth 100000 in
theorem c_X10_places (l : Launch) (D : va_G) (G : Nat → Nat) (Q : Nat → ClassId) (σ : St) (ks : Int32) : MI l yX10_places cX10_places 3 .int ({ frames := 2, cells := 0, slots := 0, locals := 43 }) D cls (tyl Q) [.ref (G 0), .int ks] (kw G Q) (kw G Q σ) (okA (aPlaces σ ks)) 0 0 := by
  refine MI_of (by decide) (Nat.le_of_ble_eq_true rfl) ?_
  intro p e s m args below meth c A ls cx hw hl
  have hl : lv_has ls 3 [(0, .ref (G 0)), (1, .int ks)] := hl
  by_cases hv : okS ks
  · obtain ⟨k, hk, rfl⟩ := okS_k hv
    refine lv_aload_n cx.x cx.b dX10_places_0 rfl (lv_at hl 0 rfl) ?_
    refine lv_iload_n cx.x cx.b dX10_places_1 rfl (lv_at hl 1 rfl) ?_
    refine cgo_r cx hw (rV_r (q0 := 0) (n := 1) (As := [.int (nI k)]) (rest := []) cx hw (c_findShelf_s l D G Q σ k hk) (gd_V tw_278 tw_280 ts_1 tw_1 tw_281) rfl ⟨by decide +kernel, rfl, hl.1, (Nat.le_of_ble_eq_true rfl), ⟨(Nat.le_of_ble_eq_true rfl), (Nat.le_of_ble_eq_true rfl)⟩, ⟨(Nat.le_of_ble_eq_true rfl), (Nat.le_of_ble_eq_true rfl)⟩, rfl, rfl⟩ rfl (kw_h σ) rfl dX10_places_2) (fun r u H locs hp hw => ?_)
    obtain ⟨h8, h9⟩ := hp
    have h8 := h8.symm
    have h9 := h9.symm
    subst h8
    subst h9
    refine W.eq (g2 := F0 m 5 ls [.ref (G (5 + k))]) rfl ?_
    refine lv_astore_n (lv' := [(2, .ref (G (5 + k))), (0, .ref (G 0)), (1, .int (nI k))]) cx.x cx.b dX10_places_5 rfl hl (by decide) rfl (fun ls hl => ?_)
    refine lv_aload_n cx.x cx.b dX10_places_6 rfl (lv_at hl 0 rfl) ?_
    refine lv_ifnonnull (tgt := 13) cx.x cx.b dX10_places_7 (by decide) ?_
    refine lv_aload_n cx.x cx.b dX10_places_13 rfl (lv_at hl 0 rfl) ?_
    refine cgo_i cx hw (rV_i (q0 := (5 + k)) (n := 0) (As := []) (rest := []) cx hw (c_X7_isOut l D G Q σ k hk) (gd_V tw_282 tw_283 tw_284 tw_3 tw_285) rfl ⟨by decide +kernel, rfl, hl.1, (Nat.le_of_ble_eq_true rfl), ⟨(Nat.le_of_ble_eq_true rfl), (Nat.le_of_ble_eq_true rfl)⟩, ⟨(Nat.le_of_ble_eq_true rfl), (Nat.le_of_ble_eq_true rfl)⟩, rfl, rfl⟩ rfl (kw_s σ hk) rfl dX10_places_14) (fun r u H locs hp hw => ?_)
    obtain ⟨h8, h9⟩ := hp
    have h8 := h8.symm
    have h9 := h9.symm
    subst h8
    subst h9
    refine lv_if_eq (tgt := 24) cx.x cx.b dX10_places_17 (by decide) (fun hb17 => ?_) (fun hb17 => ?_)
    · refine lv_aload_n cx.x cx.b dX10_places_24 rfl (lv_at hl 0 rfl) ?_
      refine gt_f (v := .int (s_z σ k)) cx hw (5 + k) (kw_s σ hk) rfl inX7 1 (by decide) tw_77 ⟨rfl, rfl, Or.inl rfl⟩ rfl dX10_places_25 ?_
      exact ret_i σ cx hw (okA_of (by unfold aPlaces; rw [if_pos hv, cl4 hk])) dX10_places_28 (Nat.le_of_ble_eq_true rfl) (Nat.le_of_ble_eq_true rfl)
    · refine lv_iconst (v := (-1)) cx.x cx.b dX10_places_20 (by decide) ?_
      refine lv_goto (tgt := 28) cx.x cx.b dX10_places_21 (by decide) ?_
      exact ret_i σ cx hw (okA_of (by unfold aPlaces; rw [if_pos hv, cl4 hk, Decidable.not_not.mp (fun h => hb17 (b01_eq0.mpr h))])) dX10_places_28 (Nat.le_of_ble_eq_true rfl) (Nat.le_of_ble_eq_true rfl)
  · have hs9 := okS_n hv
    refine lv_aload_n cx.x cx.b dX10_places_0 rfl (lv_at hl 0 rfl) ?_
    refine lv_iload_n cx.x cx.b dX10_places_1 rfl (lv_at hl 1 rfl) ?_
    refine cgo_r cx hw (rV_r (q0 := 0) (n := 1) (As := [.int ks]) (rest := []) cx hw (c_findShelf_n l D G Q σ ks hs9) (gd_V tw_278 tw_280 ts_1 tw_1 tw_281) rfl ⟨by decide +kernel, rfl, hl.1, (Nat.le_of_ble_eq_true rfl), ⟨(Nat.le_of_ble_eq_true rfl), (Nat.le_of_ble_eq_true rfl)⟩, ⟨(Nat.le_of_ble_eq_true rfl), (Nat.le_of_ble_eq_true rfl)⟩, rfl, rfl⟩ rfl (kw_h σ) rfl dX10_places_2) (fun r u H locs hp hw => ?_)
    obtain ⟨h8, h9⟩ := hp
    have h8 := h8.symm
    have h9 := h9.symm
    subst h8
    subst h9
    refine W.eq (g2 := F0 m 5 ls [.null]) rfl ?_
    refine lv_astore_nN (lv' := [(2, .null), (0, .ref (G 0)), (1, .int ks)]) cx.x cx.b dX10_places_5 rfl hl (by decide) rfl (fun ls hl => ?_)
    refine lv_aload_nN cx.x cx.b dX10_places_6 rfl (lv_at hl 0 rfl) ?_
    refine lv_ifnonnullN cx.x cx.b dX10_places_7 ?_
    refine lv_bipush (v := (-102)) cx.x cx.b dX10_places_10 (by decide) ?_
    exact ret_i σ cx hw (okA_of (by unfold aPlaces; rw [if_neg hv])) dX10_places_12 (Nat.le_of_ble_eq_true rfl) (Nat.le_of_ble_eq_true rfl)
set_option maxHeartbeats 4000000 in
set_option maxRecDepth 100000 in
theorem c_X10_out (l : Launch) (D : va_G) (G : Nat → Nat) (Q : Nat → ClassId) (σ : St) (ks : Int32) : MI l yX10_out cX10_out 3 .int ({ frames := 2, cells := 0, slots := 0, locals := 43 }) D cls (tyl Q) [.ref (G 0), .int ks] (kw G Q) (kw G Q σ) (okA (aOut σ ks)) 0 0 := by
  refine MI_of (by decide) (Nat.le_of_ble_eq_true rfl) ?_
  intro p e s m args below meth c A ls cx hw hl
  have hl : lv_has ls 3 [(0, .ref (G 0)), (1, .int ks)] := hl
  by_cases hv : okS ks
  · obtain ⟨k, hk, rfl⟩ := okS_k hv
    refine lv_aload_n cx.x cx.b dX10_out_0 rfl (lv_at hl 0 rfl) ?_
    refine lv_iload_n cx.x cx.b dX10_out_1 rfl (lv_at hl 1 rfl) ?_
    refine cgo_r cx hw (rV_r (q0 := 0) (n := 1) (As := [.int (nI k)]) (rest := []) cx hw (c_findShelf_s l D G Q σ k hk) (gd_V tw_278 tw_280 ts_1 tw_1 tw_281) rfl ⟨by decide +kernel, rfl, hl.1, (Nat.le_of_ble_eq_true rfl), ⟨(Nat.le_of_ble_eq_true rfl), (Nat.le_of_ble_eq_true rfl)⟩, ⟨(Nat.le_of_ble_eq_true rfl), (Nat.le_of_ble_eq_true rfl)⟩, rfl, rfl⟩ rfl (kw_h σ) rfl dX10_out_2) (fun r u H locs hp hw => ?_)
    obtain ⟨h8, h9⟩ := hp
    have h8 := h8.symm
    have h9 := h9.symm
    subst h8
    subst h9
    refine W.eq (g2 := F0 m 5 ls [.ref (G (5 + k))]) rfl ?_
    refine lv_astore_n (lv' := [(2, .ref (G (5 + k))), (0, .ref (G 0)), (1, .int (nI k))]) cx.x cx.b dX10_out_5 rfl hl (by decide) rfl (fun ls hl => ?_)
    refine lv_aload_n cx.x cx.b dX10_out_6 rfl (lv_at hl 0 rfl) ?_
    refine lv_ifnonnull (tgt := 13) cx.x cx.b dX10_out_7 (by decide) ?_
    refine lv_aload_n cx.x cx.b dX10_out_13 rfl (lv_at hl 0 rfl) ?_
    refine cgo_i cx hw (rV_i (q0 := (5 + k)) (n := 0) (As := []) (rest := []) cx hw (c_X7_isOut l D G Q σ k hk) (gd_V tw_282 tw_283 tw_284 tw_3 tw_285) rfl ⟨by decide +kernel, rfl, hl.1, (Nat.le_of_ble_eq_true rfl), ⟨(Nat.le_of_ble_eq_true rfl), (Nat.le_of_ble_eq_true rfl)⟩, ⟨(Nat.le_of_ble_eq_true rfl), (Nat.le_of_ble_eq_true rfl)⟩, rfl, rfl⟩ rfl (kw_s σ hk) rfl dX10_out_14) (fun r u H locs hp hw => ?_)
    obtain ⟨h8, h9⟩ := hp
    have h8 := h8.symm
    have h9 := h9.symm
    subst h8
    subst h9
    refine lv_if_eq (tgt := 22) cx.x cx.b dX10_out_17 (by decide) (fun hb17 => ?_) (fun hb17 => ?_)
    · refine lv_aload_n cx.x cx.b dX10_out_22 rfl (lv_at hl 0 rfl) ?_
      refine cgo_v cx hw (rV_v (q0 := (5 + k)) (n := 0) (As := []) (rest := []) cx hw (c_X7_takeOut l D G Q σ k hk) (gd_V tw_286 tw_287 tw_288 tw_3 tw_289) rfl ⟨by decide +kernel, rfl, hl.1, (Nat.le_of_ble_eq_true rfl), ⟨(Nat.le_of_ble_eq_true rfl), (Nat.le_of_ble_eq_true rfl)⟩, ⟨(Nat.le_of_ble_eq_true rfl), (Nat.le_of_ble_eq_true rfl)⟩, rfl, rfl⟩ rfl (kw_s σ hk) rfl dX10_out_23) (fun u H locs hp hw => ?_)
      have hp := hp.symm
      subst hp
      refine lv_iconst (v := 1) cx.x cx.b dX10_out_26 (by decide) ?_
      exact ret_i (sZ k (-1) σ) cx hw (okA_of (by unfold aOut; rw [if_pos hv, cl4 hk, if_neg (b01_eq0.mp hb17)])) dX10_out_27 (Nat.le_of_ble_eq_true rfl) (Nat.le_of_ble_eq_true rfl)
    · refine lv_iconst (v := 0) cx.x cx.b dX10_out_20 (by decide) ?_
      exact ret_i σ cx hw (okA_of (by unfold aOut; rw [if_pos hv, cl4 hk, if_pos (Decidable.not_not.mp (fun h => hb17 (b01_eq0.mpr h)))])) dX10_out_21 (Nat.le_of_ble_eq_true rfl) (Nat.le_of_ble_eq_true rfl)
  · have hs9 := okS_n hv
    refine lv_aload_n cx.x cx.b dX10_out_0 rfl (lv_at hl 0 rfl) ?_
    refine lv_iload_n cx.x cx.b dX10_out_1 rfl (lv_at hl 1 rfl) ?_
    refine cgo_r cx hw (rV_r (q0 := 0) (n := 1) (As := [.int ks]) (rest := []) cx hw (c_findShelf_n l D G Q σ ks hs9) (gd_V tw_278 tw_280 ts_1 tw_1 tw_281) rfl ⟨by decide +kernel, rfl, hl.1, (Nat.le_of_ble_eq_true rfl), ⟨(Nat.le_of_ble_eq_true rfl), (Nat.le_of_ble_eq_true rfl)⟩, ⟨(Nat.le_of_ble_eq_true rfl), (Nat.le_of_ble_eq_true rfl)⟩, rfl, rfl⟩ rfl (kw_h σ) rfl dX10_out_2) (fun r u H locs hp hw => ?_)
    obtain ⟨h8, h9⟩ := hp
    have h8 := h8.symm
    have h9 := h9.symm
    subst h8
    subst h9
    refine W.eq (g2 := F0 m 5 ls [.null]) rfl ?_
    refine lv_astore_nN (lv' := [(2, .null), (0, .ref (G 0)), (1, .int ks)]) cx.x cx.b dX10_out_5 rfl hl (by decide) rfl (fun ls hl => ?_)
    refine lv_aload_nN cx.x cx.b dX10_out_6 rfl (lv_at hl 0 rfl) ?_
    refine lv_ifnonnullN cx.x cx.b dX10_out_7 ?_
    refine lv_bipush (v := (-102)) cx.x cx.b dX10_out_10 (by decide) ?_
    exact ret_i σ cx hw (okA_of (by unfold aOut; rw [if_neg hv])) dX10_out_12 (Nat.le_of_ble_eq_true rfl) (Nat.le_of_ble_eq_true rfl)
set_option maxHeartbeats 4000000 in
set_option maxRecDepth 100000 in
theorem c_X10_shelf (l : Launch) (hl0 : l.stackTraces = false) (D : va_G) (G : Nat → Nat) (Q : Nat → ClassId) (σ : St) (ks nn : Int32) : XI l yX10_shelf cX10_shelf 4 .int ({ frames := 6, cells := 1, slots := 6, locals := 90 }) D cls (tyl Q) [.ref (G 0), .int ks, .int nn] (kw G Q) (kw G Q σ) (okA (aShelf σ ks nn)) (exA eNAS (aShelf σ ks nn)) 1 6 := by
  refine XI_of (by decide) (Nat.le_of_ble_eq_true rfl) ?_
  intro p e s m args below meth c A ls htab cx hw hl
  have hl : lv_has ls 4 [(0, .ref (G 0)), (1, .int ks), (2, .int nn)] := hl
  by_cases hv : okS ks
  · obtain ⟨k, hk, rfl⟩ := okS_k hv
    refine lv_aload_n cx.x cx.b dX10_shelf_0 rfl (lv_at hl 0 rfl) ?_
    refine lv_iload_n cx.x cx.b dX10_shelf_1 rfl (lv_at hl 1 rfl) ?_
    refine cgo_r cx hw (rV_r (q0 := 0) (n := 1) (As := [.int (nI k)]) (rest := []) cx hw (c_findShelf_s l D G Q σ k hk) (gd_V tw_278 tw_280 ts_1 tw_1 tw_281) rfl ⟨by decide +kernel, rfl, hl.1, (Nat.le_of_ble_eq_true rfl), ⟨(Nat.le_of_ble_eq_true rfl), (Nat.le_of_ble_eq_true rfl)⟩, ⟨(Nat.le_of_ble_eq_true rfl), (Nat.le_of_ble_eq_true rfl)⟩, rfl, rfl⟩ rfl (kw_h σ) rfl dX10_shelf_2) (fun r u H locs hp hw => ?_)
    obtain ⟨h8, h9⟩ := hp
    have h8 := h8.symm
    have h9 := h9.symm
    subst h8
    subst h9
    refine W.eq (g2 := F0 m 5 ls [.ref (G (5 + k))]) rfl ?_
    refine lv_astore_n (lv' := [(3, .ref (G (5 + k))), (0, .ref (G 0)), (1, .int (nI k)), (2, .int nn)]) cx.x cx.b dX10_shelf_5 rfl hl (by decide) rfl (fun ls hl => ?_)
    refine lv_aload_n cx.x cx.b dX10_shelf_6 rfl (lv_at hl 0 rfl) ?_
    refine lv_ifnull cx.x cx.b dX10_shelf_7 ?_
    refine lv_iload_n cx.x cx.b dX10_shelf_10 rfl (lv_at hl 3 rfl) ?_
    refine lv_bipush (v := 8) cx.x cx.b dX10_shelf_11 (by decide) ?_
    refine lv_icmp_le (tgt := 19) cx.x cx.b dX10_shelf_13 (by decide) (fun hb13 => ?_) (fun hb13 => ?_)
    · refine lv_iload_n cx.x cx.b dX10_shelf_19 rfl (lv_at hl 3 rfl) ?_
      refine lv_if_ge (tgt := 33) cx.x cx.b dX10_shelf_20 (by decide) (fun hb20 => ?_) (fun hb20 => ?_)
      · refine lv_aload_n cx.x cx.b dX10_shelf_33 rfl (lv_at hl 0 rfl) ?_
        refine lv_iload_n cx.x cx.b dX10_shelf_34 rfl (lv_at hl 3 rfl) ?_
        refine cgo_v cx hw (rV_v (q0 := (5 + k)) (n := 1) (As := [.int nn]) (rest := []) cx hw (c_X7_bringIn l D G Q σ k hk nn) (gd_V tw_564 tw_565 tw_566 tw_3 tw_567) rfl ⟨by decide +kernel, rfl, hl.1, (Nat.le_of_ble_eq_true rfl), ⟨(Nat.le_of_ble_eq_true rfl), (Nat.le_of_ble_eq_true rfl)⟩, ⟨(Nat.le_of_ble_eq_true rfl), (Nat.le_of_ble_eq_true rfl)⟩, rfl, rfl⟩ rfl (kw_s σ hk) rfl dX10_shelf_35) (fun u H locs hp hw => ?_)
        have hp := hp.symm
        subst hp
        refine lv_iload_n cx.x cx.b dX10_shelf_38 rfl (lv_at hl 3 rfl) ?_
        exact xret_i (clr k (sZ k nn σ) 8) cx hw (okA_of (by unfold aShelf; rw [if_pos ⟨hv, hb13⟩, if_neg (Int32.not_lt.mpr hb20), cl4 hk])) dX10_shelf_39 (Nat.le_of_ble_eq_true rfl) (Nat.le_of_ble_eq_true rfl)
      · exact thr_i σ hl0 htab cx hw (ok_NAS cx) hl.1 dX10_shelf_23 dX10_shelf_26 dX10_shelf_27 dX10_shelf_29 dX10_shelf_32 ⟨(Nat.le_of_ble_eq_true rfl), (Nat.le_of_ble_eq_true rfl), (Nat.le_of_ble_eq_true rfl), (Nat.le_of_ble_eq_true rfl)⟩ (exA_of (by unfold aShelf; rw [if_pos ⟨hv, hb13⟩, if_pos (Int32.not_le.mp hb20)]) ⟨rfl, rfl⟩) (Nat.le_of_ble_eq_true rfl) (Nat.le_of_ble_eq_true rfl)
    · refine lv_bipush (v := (-102)) cx.x cx.b dX10_shelf_16 (by decide) ?_
      exact xret_i σ cx hw (okA_of (by unfold aShelf; rw [if_neg (fun h => hb13 h.2)])) dX10_shelf_18 (Nat.le_of_ble_eq_true rfl) (Nat.le_of_ble_eq_true rfl)
  · have hs9 := okS_n hv
    refine lv_aload_n cx.x cx.b dX10_shelf_0 rfl (lv_at hl 0 rfl) ?_
    refine lv_iload_n cx.x cx.b dX10_shelf_1 rfl (lv_at hl 1 rfl) ?_
    refine cgo_r cx hw (rV_r (q0 := 0) (n := 1) (As := [.int ks]) (rest := []) cx hw (c_findShelf_n l D G Q σ ks hs9) (gd_V tw_278 tw_280 ts_1 tw_1 tw_281) rfl ⟨by decide +kernel, rfl, hl.1, (Nat.le_of_ble_eq_true rfl), ⟨(Nat.le_of_ble_eq_true rfl), (Nat.le_of_ble_eq_true rfl)⟩, ⟨(Nat.le_of_ble_eq_true rfl), (Nat.le_of_ble_eq_true rfl)⟩, rfl, rfl⟩ rfl (kw_h σ) rfl dX10_shelf_2) (fun r u H locs hp hw => ?_)
    obtain ⟨h8, h9⟩ := hp
    have h8 := h8.symm
    have h9 := h9.symm
    subst h8
    subst h9
    refine W.eq (g2 := F0 m 5 ls [.null]) rfl ?_
    refine lv_astore_nN (lv' := [(3, .null), (0, .ref (G 0)), (1, .int ks), (2, .int nn)]) cx.x cx.b dX10_shelf_5 rfl hl (by decide) rfl (fun ls hl => ?_)
    refine lv_aload_nN cx.x cx.b dX10_shelf_6 rfl (lv_at hl 0 rfl) ?_
    refine lv_ifnullN (tgt := 16) cx.x cx.b dX10_shelf_7 (by decide) ?_
    refine lv_bipush (v := (-102)) cx.x cx.b dX10_shelf_16 (by decide) ?_
    exact xret_i σ cx hw (okA_of (by unfold aShelf; rw [if_neg (fun h => hv h.1)])) dX10_shelf_18 (Nat.le_of_ble_eq_true rfl) (Nat.le_of_ble_eq_true rfl)
set_option maxHeartbeats 4000000 in
set_option maxRecDepth 100000 in
theorem c_X10_tell (l : Launch) (D : va_G) (G : Nat → Nat) (Q : Nat → ClassId) (σ : St) {b : Nat} (hI : Inv b σ) (lo wh : Int32) : MI l yX10_tell cX10_tell 4 .int ({ frames := 2, cells := 0, slots := 0, locals := 43 }) D cls (tyl Q) [.ref (G 0), .int lo, .int wh] (kw G Q) (kw G Q σ) (okA (aTell σ lo wh)) 0 0 := by
  refine MI_of (by decide) (Nat.le_of_ble_eq_true rfl) ?_
  intro p e s m args below meth c A ls cx hw hl
  have hl : lv_has ls 4 [(0, .ref (G 0)), (1, .int lo), (2, .int wh)] := hl
  have hN9 := hI.n
  by_cases hv : okL σ lo
  · obtain ⟨i, hn, rfl⟩ := okL_i hN9 hv
    have hd := hI.k hn
    by_cases w0 : wh = 0
    · subst w0
      refine lv_aload_n cx.x cx.b dX10_tell_0 rfl (lv_at hl 0 rfl) ?_
      refine lv_iload_n cx.x cx.b dX10_tell_1 rfl (lv_at hl 1 rfl) ?_
      refine cgo_r cx hw (rV_r (q0 := 0) (n := 1) (As := [.int (nI i)]) (rest := []) cx hw (c_findLoaf_s l D G Q σ hN9 i hn) (gd_V tw_294 tw_296 ts_2 tw_1 tw_297) rfl ⟨by decide +kernel, rfl, hl.1, (Nat.le_of_ble_eq_true rfl), ⟨(Nat.le_of_ble_eq_true rfl), (Nat.le_of_ble_eq_true rfl)⟩, ⟨(Nat.le_of_ble_eq_true rfl), (Nat.le_of_ble_eq_true rfl)⟩, rfl, rfl⟩ rfl (kw_h σ) rfl dX10_tell_2) (fun r u H locs hp hw => ?_)
      obtain ⟨h8, h9⟩ := hp
      have h8 := h8.symm
      have h9 := h9.symm
      subst h8
      subst h9
      refine W.eq (g2 := F0 m 5 ls [.ref (s_a σ i)]) rfl ?_
      refine lv_astore_n (lv' := [(3, .ref (s_a σ i)), (0, .ref (G 0)), (1, .int (nI i)), (2, .int 0)]) cx.x cx.b dX10_tell_5 rfl hl (by decide) rfl (fun ls hl => ?_)
      refine lv_aload_n cx.x cx.b dX10_tell_6 rfl (lv_at hl 0 rfl) ?_
      refine lv_ifnonnull (tgt := 13) cx.x cx.b dX10_tell_7 (by decide) ?_
      refine lv_iload_n cx.x cx.b dX10_tell_13 rfl (lv_at hl 3 rfl) ?_
      refine lv_tableIn (tgt := 52) cx.x cx.b dX10_tell_14 (by decide) (by decide) rfl (by decide) ?_
      refine lv_aload_n cx.x cx.b dX10_tell_52 rfl (lv_at hl 0 rfl) ?_
      refine gt_f (v := .int (nI (s_k σ i))) cx hw (13 + i) (kw_d σ hn) (cls_d hd) (inD_all _ hd) 2 (by decide) tw_133 ⟨rfl, rfl, Or.inl rfl⟩ rfl dX10_tell_53 ?_
      exact ret_i σ cx hw (okA_of (by unfold aTell; rw [if_pos hv, cl20 hN9 hn, if_pos rfl])) dX10_tell_56 (Nat.le_of_ble_eq_true rfl) (Nat.le_of_ble_eq_true rfl)
    · by_cases w1 : wh = 1
      · subst w1
        refine lv_aload_n cx.x cx.b dX10_tell_0 rfl (lv_at hl 0 rfl) ?_
        refine lv_iload_n cx.x cx.b dX10_tell_1 rfl (lv_at hl 1 rfl) ?_
        refine cgo_r cx hw (rV_r (q0 := 0) (n := 1) (As := [.int (nI i)]) (rest := []) cx hw (c_findLoaf_s l D G Q σ hN9 i hn) (gd_V tw_294 tw_296 ts_2 tw_1 tw_297) rfl ⟨by decide +kernel, rfl, hl.1, (Nat.le_of_ble_eq_true rfl), ⟨(Nat.le_of_ble_eq_true rfl), (Nat.le_of_ble_eq_true rfl)⟩, ⟨(Nat.le_of_ble_eq_true rfl), (Nat.le_of_ble_eq_true rfl)⟩, rfl, rfl⟩ rfl (kw_h σ) rfl dX10_tell_2) (fun r u H locs hp hw => ?_)
        obtain ⟨h8, h9⟩ := hp
        have h8 := h8.symm
        have h9 := h9.symm
        subst h8
        subst h9
        refine W.eq (g2 := F0 m 5 ls [.ref (s_a σ i)]) rfl ?_
        refine lv_astore_n (lv' := [(3, .ref (s_a σ i)), (0, .ref (G 0)), (1, .int (nI i)), (2, .int 1)]) cx.x cx.b dX10_tell_5 rfl hl (by decide) rfl (fun ls hl => ?_)
        refine lv_aload_n cx.x cx.b dX10_tell_6 rfl (lv_at hl 0 rfl) ?_
        refine lv_ifnonnull (tgt := 13) cx.x cx.b dX10_tell_7 (by decide) ?_
        refine lv_iload_n cx.x cx.b dX10_tell_13 rfl (lv_at hl 3 rfl) ?_
        refine lv_tableIn (tgt := 57) cx.x cx.b dX10_tell_14 (by decide) (by decide) rfl (by decide) ?_
        refine lv_aload_n cx.x cx.b dX10_tell_57 rfl (lv_at hl 0 rfl) ?_
        refine gt_f (v := .int (s_F σ 3 i)) cx hw (13 + i) (kw_d σ hn) (cls_d hd) (inD_all _ hd) 3 (by decide) tw_135 ⟨rfl, rfl, Or.inl rfl⟩ rfl dX10_tell_58 ?_
        exact ret_i σ cx hw (okA_of (by unfold aTell; rw [if_pos hv, cl20 hN9 hn, if_neg (by decide : ¬ (1 : Int32) = 0), if_pos rfl])) dX10_tell_61 (Nat.le_of_ble_eq_true rfl) (Nat.le_of_ble_eq_true rfl)
      · by_cases w2 : wh = 2
        · subst w2
          refine lv_aload_n cx.x cx.b dX10_tell_0 rfl (lv_at hl 0 rfl) ?_
          refine lv_iload_n cx.x cx.b dX10_tell_1 rfl (lv_at hl 1 rfl) ?_
          refine cgo_r cx hw (rV_r (q0 := 0) (n := 1) (As := [.int (nI i)]) (rest := []) cx hw (c_findLoaf_s l D G Q σ hN9 i hn) (gd_V tw_294 tw_296 ts_2 tw_1 tw_297) rfl ⟨by decide +kernel, rfl, hl.1, (Nat.le_of_ble_eq_true rfl), ⟨(Nat.le_of_ble_eq_true rfl), (Nat.le_of_ble_eq_true rfl)⟩, ⟨(Nat.le_of_ble_eq_true rfl), (Nat.le_of_ble_eq_true rfl)⟩, rfl, rfl⟩ rfl (kw_h σ) rfl dX10_tell_2) (fun r u H locs hp hw => ?_)
          obtain ⟨h8, h9⟩ := hp
          have h8 := h8.symm
          have h9 := h9.symm
          subst h8
          subst h9
          refine W.eq (g2 := F0 m 5 ls [.ref (s_a σ i)]) rfl ?_
          refine lv_astore_n (lv' := [(3, .ref (s_a σ i)), (0, .ref (G 0)), (1, .int (nI i)), (2, .int 2)]) cx.x cx.b dX10_tell_5 rfl hl (by decide) rfl (fun ls hl => ?_)
          refine lv_aload_n cx.x cx.b dX10_tell_6 rfl (lv_at hl 0 rfl) ?_
          refine lv_ifnonnull (tgt := 13) cx.x cx.b dX10_tell_7 (by decide) ?_
          refine lv_iload_n cx.x cx.b dX10_tell_13 rfl (lv_at hl 3 rfl) ?_
          refine lv_tableIn (tgt := 62) cx.x cx.b dX10_tell_14 (by decide) (by decide) rfl (by decide) ?_
          refine lv_aload_n cx.x cx.b dX10_tell_62 rfl (lv_at hl 0 rfl) ?_
          refine gt_f (v := .int (s_F σ 4 i)) cx hw (13 + i) (kw_d σ hn) (cls_d hd) (inD_all _ hd) 4 (by decide) tw_139 ⟨rfl, rfl, Or.inl rfl⟩ rfl dX10_tell_63 ?_
          exact ret_i σ cx hw (okA_of (by unfold aTell; rw [if_pos hv, cl20 hN9 hn, if_neg (by decide : ¬ (2 : Int32) = 0), if_neg (by decide : ¬ (2 : Int32) = 1), if_pos rfl])) dX10_tell_66 (Nat.le_of_ble_eq_true rfl) (Nat.le_of_ble_eq_true rfl)
        · by_cases w3 : wh = 3
          · subst w3
            refine lv_aload_n cx.x cx.b dX10_tell_0 rfl (lv_at hl 0 rfl) ?_
            refine lv_iload_n cx.x cx.b dX10_tell_1 rfl (lv_at hl 1 rfl) ?_
            refine cgo_r cx hw (rV_r (q0 := 0) (n := 1) (As := [.int (nI i)]) (rest := []) cx hw (c_findLoaf_s l D G Q σ hN9 i hn) (gd_V tw_294 tw_296 ts_2 tw_1 tw_297) rfl ⟨by decide +kernel, rfl, hl.1, (Nat.le_of_ble_eq_true rfl), ⟨(Nat.le_of_ble_eq_true rfl), (Nat.le_of_ble_eq_true rfl)⟩, ⟨(Nat.le_of_ble_eq_true rfl), (Nat.le_of_ble_eq_true rfl)⟩, rfl, rfl⟩ rfl (kw_h σ) rfl dX10_tell_2) (fun r u H locs hp hw => ?_)
            obtain ⟨h8, h9⟩ := hp
            have h8 := h8.symm
            have h9 := h9.symm
            subst h8
            subst h9
            refine W.eq (g2 := F0 m 5 ls [.ref (s_a σ i)]) rfl ?_
            refine lv_astore_n (lv' := [(3, .ref (s_a σ i)), (0, .ref (G 0)), (1, .int (nI i)), (2, .int 3)]) cx.x cx.b dX10_tell_5 rfl hl (by decide) rfl (fun ls hl => ?_)
            refine lv_aload_n cx.x cx.b dX10_tell_6 rfl (lv_at hl 0 rfl) ?_
            refine lv_ifnonnull (tgt := 13) cx.x cx.b dX10_tell_7 (by decide) ?_
            refine lv_iload_n cx.x cx.b dX10_tell_13 rfl (lv_at hl 3 rfl) ?_
            refine lv_tableIn (tgt := 67) cx.x cx.b dX10_tell_14 (by decide) (by decide) rfl (by decide) ?_
            refine lv_aload_n cx.x cx.b dX10_tell_67 rfl (lv_at hl 0 rfl) ?_
            refine gt_f (v := .int (s_F σ 5 i)) cx hw (13 + i) (kw_d σ hn) (cls_d hd) (inD_all _ hd) 5 (by decide) tw_143 ⟨rfl, rfl, Or.inl rfl⟩ rfl dX10_tell_68 ?_
            exact ret_i σ cx hw (okA_of (by unfold aTell; rw [if_pos hv, cl20 hN9 hn, if_neg (by decide : ¬ (3 : Int32) = 0), if_neg (by decide : ¬ (3 : Int32) = 1), if_neg (by decide : ¬ (3 : Int32) = 2), if_pos rfl])) dX10_tell_71 (Nat.le_of_ble_eq_true rfl) (Nat.le_of_ble_eq_true rfl)
          · by_cases w4 : wh = 4
            · subst w4
              refine lv_aload_n cx.x cx.b dX10_tell_0 rfl (lv_at hl 0 rfl) ?_
              refine lv_iload_n cx.x cx.b dX10_tell_1 rfl (lv_at hl 1 rfl) ?_
              refine cgo_r cx hw (rV_r (q0 := 0) (n := 1) (As := [.int (nI i)]) (rest := []) cx hw (c_findLoaf_s l D G Q σ hN9 i hn) (gd_V tw_294 tw_296 ts_2 tw_1 tw_297) rfl ⟨by decide +kernel, rfl, hl.1, (Nat.le_of_ble_eq_true rfl), ⟨(Nat.le_of_ble_eq_true rfl), (Nat.le_of_ble_eq_true rfl)⟩, ⟨(Nat.le_of_ble_eq_true rfl), (Nat.le_of_ble_eq_true rfl)⟩, rfl, rfl⟩ rfl (kw_h σ) rfl dX10_tell_2) (fun r u H locs hp hw => ?_)
              obtain ⟨h8, h9⟩ := hp
              have h8 := h8.symm
              have h9 := h9.symm
              subst h8
              subst h9
              refine W.eq (g2 := F0 m 5 ls [.ref (s_a σ i)]) rfl ?_
              refine lv_astore_n (lv' := [(3, .ref (s_a σ i)), (0, .ref (G 0)), (1, .int (nI i)), (2, .int 4)]) cx.x cx.b dX10_tell_5 rfl hl (by decide) rfl (fun ls hl => ?_)
              refine lv_aload_n cx.x cx.b dX10_tell_6 rfl (lv_at hl 0 rfl) ?_
              refine lv_ifnonnull (tgt := 13) cx.x cx.b dX10_tell_7 (by decide) ?_
              refine lv_iload_n cx.x cx.b dX10_tell_13 rfl (lv_at hl 3 rfl) ?_
              refine lv_tableIn (tgt := 72) cx.x cx.b dX10_tell_14 (by decide) (by decide) rfl (by decide) ?_
              refine lv_aload_n cx.x cx.b dX10_tell_72 rfl (lv_at hl 0 rfl) ?_
              refine gt_f (v := .int (s_F σ 6 i)) cx hw (13 + i) (kw_d σ hn) (cls_d hd) (inD_all _ hd) 6 (by decide) tw_149 ⟨rfl, rfl, Or.inl rfl⟩ rfl dX10_tell_73 ?_
              exact ret_i σ cx hw (okA_of (by unfold aTell; rw [if_pos hv, cl20 hN9 hn, if_neg (by decide : ¬ (4 : Int32) = 0), if_neg (by decide : ¬ (4 : Int32) = 1), if_neg (by decide : ¬ (4 : Int32) = 2), if_neg (by decide : ¬ (4 : Int32) = 3), if_pos rfl])) dX10_tell_76 (Nat.le_of_ble_eq_true rfl) (Nat.le_of_ble_eq_true rfl)
            · by_cases w5 : wh = 5
              · subst w5
                refine lv_aload_n cx.x cx.b dX10_tell_0 rfl (lv_at hl 0 rfl) ?_
                refine lv_iload_n cx.x cx.b dX10_tell_1 rfl (lv_at hl 1 rfl) ?_
                refine cgo_r cx hw (rV_r (q0 := 0) (n := 1) (As := [.int (nI i)]) (rest := []) cx hw (c_findLoaf_s l D G Q σ hN9 i hn) (gd_V tw_294 tw_296 ts_2 tw_1 tw_297) rfl ⟨by decide +kernel, rfl, hl.1, (Nat.le_of_ble_eq_true rfl), ⟨(Nat.le_of_ble_eq_true rfl), (Nat.le_of_ble_eq_true rfl)⟩, ⟨(Nat.le_of_ble_eq_true rfl), (Nat.le_of_ble_eq_true rfl)⟩, rfl, rfl⟩ rfl (kw_h σ) rfl dX10_tell_2) (fun r u H locs hp hw => ?_)
                obtain ⟨h8, h9⟩ := hp
                have h8 := h8.symm
                have h9 := h9.symm
                subst h8
                subst h9
                refine W.eq (g2 := F0 m 5 ls [.ref (s_a σ i)]) rfl ?_
                refine lv_astore_n (lv' := [(3, .ref (s_a σ i)), (0, .ref (G 0)), (1, .int (nI i)), (2, .int 5)]) cx.x cx.b dX10_tell_5 rfl hl (by decide) rfl (fun ls hl => ?_)
                refine lv_aload_n cx.x cx.b dX10_tell_6 rfl (lv_at hl 0 rfl) ?_
                refine lv_ifnonnull (tgt := 13) cx.x cx.b dX10_tell_7 (by decide) ?_
                refine lv_iload_n cx.x cx.b dX10_tell_13 rfl (lv_at hl 3 rfl) ?_
                refine lv_tableIn (tgt := 77) cx.x cx.b dX10_tell_14 (by decide) (by decide) rfl (by decide) ?_
                refine lv_aload_n cx.x cx.b dX10_tell_77 rfl (lv_at hl 0 rfl) ?_
                refine gt_f (v := .int (s_F σ 7 i)) cx hw (13 + i) (kw_d σ hn) (cls_d hd) (inD_all _ hd) 7 (by decide) tw_155 ⟨rfl, rfl, Or.inl rfl⟩ rfl dX10_tell_78 ?_
                exact ret_i σ cx hw (okA_of (by unfold aTell; rw [if_pos hv, cl20 hN9 hn, if_neg (by decide : ¬ (5 : Int32) = 0), if_neg (by decide : ¬ (5 : Int32) = 1), if_neg (by decide : ¬ (5 : Int32) = 2), if_neg (by decide : ¬ (5 : Int32) = 3), if_neg (by decide : ¬ (5 : Int32) = 4), if_pos rfl])) dX10_tell_81 (Nat.le_of_ble_eq_true rfl) (Nat.le_of_ble_eq_true rfl)
              · refine lv_aload_n cx.x cx.b dX10_tell_0 rfl (lv_at hl 0 rfl) ?_
                refine lv_iload_n cx.x cx.b dX10_tell_1 rfl (lv_at hl 1 rfl) ?_
                refine cgo_r cx hw (rV_r (q0 := 0) (n := 1) (As := [.int (nI i)]) (rest := []) cx hw (c_findLoaf_s l D G Q σ hN9 i hn) (gd_V tw_294 tw_296 ts_2 tw_1 tw_297) rfl ⟨by decide +kernel, rfl, hl.1, (Nat.le_of_ble_eq_true rfl), ⟨(Nat.le_of_ble_eq_true rfl), (Nat.le_of_ble_eq_true rfl)⟩, ⟨(Nat.le_of_ble_eq_true rfl), (Nat.le_of_ble_eq_true rfl)⟩, rfl, rfl⟩ rfl (kw_h σ) rfl dX10_tell_2) (fun r u H locs hp hw => ?_)
                obtain ⟨h8, h9⟩ := hp
                have h8 := h8.symm
                have h9 := h9.symm
                subst h8
                subst h9
                refine W.eq (g2 := F0 m 5 ls [.ref (s_a σ i)]) rfl ?_
                refine lv_astore_n (lv' := [(3, .ref (s_a σ i)), (0, .ref (G 0)), (1, .int (nI i)), (2, .int wh)]) cx.x cx.b dX10_tell_5 rfl hl (by decide) rfl (fun ls hl => ?_)
                refine lv_aload_n cx.x cx.b dX10_tell_6 rfl (lv_at hl 0 rfl) ?_
                refine lv_ifnonnull (tgt := 13) cx.x cx.b dX10_tell_7 (by decide) ?_
                refine lv_iload_n cx.x cx.b dX10_tell_13 rfl (lv_at hl 3 rfl) ?_
                refine lv_tableOut (tgt := 82) cx.x cx.b dX10_tell_14 (sw_o5 w0 w1 w2 w3 w4 w5) (by decide) ?_
                refine lv_bipush (v := (-102)) cx.x cx.b dX10_tell_82 (by decide) ?_
                exact ret_i σ cx hw (okA_of (by unfold aTell; rw [if_pos hv, cl20 hN9 hn, if_neg w0, if_neg w1, if_neg w2, if_neg w3, if_neg w4, if_neg w5])) dX10_tell_84 (Nat.le_of_ble_eq_true rfl) (Nat.le_of_ble_eq_true rfl)
  · have hv9 := okL_n hN9 hv
    refine lv_aload_n cx.x cx.b dX10_tell_0 rfl (lv_at hl 0 rfl) ?_
    refine lv_iload_n cx.x cx.b dX10_tell_1 rfl (lv_at hl 1 rfl) ?_
    refine cgo_r cx hw (rV_r (q0 := 0) (n := 1) (As := [.int lo]) (rest := []) cx hw (c_findLoaf_n l D G Q σ hN9 lo hv9) (gd_V tw_294 tw_296 ts_2 tw_1 tw_297) rfl ⟨by decide +kernel, rfl, hl.1, (Nat.le_of_ble_eq_true rfl), ⟨(Nat.le_of_ble_eq_true rfl), (Nat.le_of_ble_eq_true rfl)⟩, ⟨(Nat.le_of_ble_eq_true rfl), (Nat.le_of_ble_eq_true rfl)⟩, rfl, rfl⟩ rfl (kw_h σ) rfl dX10_tell_2) (fun r u H locs hp hw => ?_)
    obtain ⟨h8, h9⟩ := hp
    have h8 := h8.symm
    have h9 := h9.symm
    subst h8
    subst h9
    refine W.eq (g2 := F0 m 5 ls [.null]) rfl ?_
    refine lv_astore_nN (lv' := [(3, .null), (0, .ref (G 0)), (1, .int lo), (2, .int wh)]) cx.x cx.b dX10_tell_5 rfl hl (by decide) rfl (fun ls hl => ?_)
    refine lv_aload_nN cx.x cx.b dX10_tell_6 rfl (lv_at hl 0 rfl) ?_
    refine lv_ifnonnullN cx.x cx.b dX10_tell_7 ?_
    refine lv_bipush (v := (-101)) cx.x cx.b dX10_tell_10 (by decide) ?_
    exact ret_i σ cx hw (okA_of (by unfold aTell; rw [if_neg hv])) dX10_tell_12 (Nat.le_of_ble_eq_true rfl) (Nat.le_of_ble_eq_true rfl)
set_option maxHeartbeats 4000000 in
set_option maxRecDepth 100000 in
theorem c_X10_count (l : Launch) (D : va_G) (G : Nat → Nat) (Q : Nat → ClassId) (σ : St) (wh : Int32) : MI l yX10_count cX10_count 2 .int ({ frames := 0, cells := 0, slots := 0, locals := 0 }) D cls (tyl Q) [.ref (G 0), .int wh] (kw G Q) (kw G Q σ) (okA (aCount σ wh)) 0 0 := by
  refine MI_of (by decide) (Nat.le_of_ble_eq_true rfl) ?_
  intro p e s m args below meth c A ls cx hw hl
  have hl : lv_has ls 2 [(0, .ref (G 0)), (1, .int wh)] := hl
  by_cases w0 : wh = 0
  · subst w0
    refine lv_iload_n cx.x cx.b dX10_count_0 rfl (lv_at hl 1 rfl) ?_
    refine lv_tableIn (tgt := 36) cx.x cx.b dX10_count_1 (by decide) (by decide) rfl (by decide) ?_
    refine lv_aload_n cx.x cx.b dX10_count_36 rfl (lv_at hl 0 rfl) ?_
    refine gt_f (v := .int (nI (s_n σ))) cx hw 0 (kw_h σ) rfl inX10 3 (by decide) tw_88 ⟨rfl, rfl, Or.inl rfl⟩ rfl dX10_count_37 ?_
    exact ret_i σ cx hw (okA_of (by unfold aCount; rw [if_pos rfl])) dX10_count_40 (Nat.le_of_ble_eq_true rfl) (Nat.le_of_ble_eq_true rfl)
  · by_cases w1 : wh = 1
    · subst w1
      refine lv_iload_n cx.x cx.b dX10_count_0 rfl (lv_at hl 1 rfl) ?_
      refine lv_tableIn (tgt := 41) cx.x cx.b dX10_count_1 (by decide) (by decide) rfl (by decide) ?_
      refine lv_aload_n cx.x cx.b dX10_count_41 rfl (lv_at hl 0 rfl) ?_
      refine gt_f (v := .ref (G 1)) cx hw 0 (kw_h σ) rfl inX10 0 (by decide) tw_85 ⟨rfl, rfl, Or.inl rfl⟩ rfl dX10_count_42 ?_
      refine gt_f (v := .int (nI (s_N σ))) cx hw 1 (kw_b σ) rfl inX0 3 (by decide) tw_42 ⟨rfl, rfl, Or.inl rfl⟩ rfl dX10_count_45 ?_
      exact ret_i σ cx hw (okA_of (by unfold aCount; rw [if_neg (by decide : ¬ (1 : Int32) = 0), if_pos rfl])) dX10_count_48 (Nat.le_of_ble_eq_true rfl) (Nat.le_of_ble_eq_true rfl)
    · by_cases w2 : wh = 2
      · subst w2
        refine lv_iload_n cx.x cx.b dX10_count_0 rfl (lv_at hl 1 rfl) ?_
        refine lv_tableIn (tgt := 49) cx.x cx.b dX10_count_1 (by decide) (by decide) rfl (by decide) ?_
        refine lv_aload_n cx.x cx.b dX10_count_49 rfl (lv_at hl 0 rfl) ?_
        refine gt_f (v := .ref (G 1)) cx hw 0 (kw_h σ) rfl inX10 0 (by decide) tw_85 ⟨rfl, rfl, Or.inl rfl⟩ rfl dX10_count_50 ?_
        refine gt_f (v := .int (s_c σ 4)) cx hw 1 (kw_b σ) rfl inX0 4 (by decide) tw_45 ⟨rfl, rfl, Or.inl rfl⟩ rfl dX10_count_53 ?_
        exact ret_i σ cx hw (okA_of (by unfold aCount; rw [if_neg (by decide : ¬ (2 : Int32) = 0), if_neg (by decide : ¬ (2 : Int32) = 1), if_pos rfl])) dX10_count_56 (Nat.le_of_ble_eq_true rfl) (Nat.le_of_ble_eq_true rfl)
      · by_cases w3 : wh = 3
        · subst w3
          refine lv_iload_n cx.x cx.b dX10_count_0 rfl (lv_at hl 1 rfl) ?_
          refine lv_tableIn (tgt := 57) cx.x cx.b dX10_count_1 (by decide) (by decide) rfl (by decide) ?_
          refine lv_aload_n cx.x cx.b dX10_count_57 rfl (lv_at hl 0 rfl) ?_
          refine gt_f (v := .ref (G 1)) cx hw 0 (kw_h σ) rfl inX10 0 (by decide) tw_85 ⟨rfl, rfl, Or.inl rfl⟩ rfl dX10_count_58 ?_
          refine gt_f (v := .int (s_c σ 5)) cx hw 1 (kw_b σ) rfl inX0 5 (by decide) tw_48 ⟨rfl, rfl, Or.inl rfl⟩ rfl dX10_count_61 ?_
          exact ret_i σ cx hw (okA_of (by unfold aCount; rw [if_neg (by decide : ¬ (3 : Int32) = 0), if_neg (by decide : ¬ (3 : Int32) = 1), if_neg (by decide : ¬ (3 : Int32) = 2), if_pos rfl])) dX10_count_64 (Nat.le_of_ble_eq_true rfl) (Nat.le_of_ble_eq_true rfl)
        · by_cases w4 : wh = 4
          · subst w4
            refine lv_iload_n cx.x cx.b dX10_count_0 rfl (lv_at hl 1 rfl) ?_
            refine lv_tableIn (tgt := 65) cx.x cx.b dX10_count_1 (by decide) (by decide) rfl (by decide) ?_
            refine lv_aload_n cx.x cx.b dX10_count_65 rfl (lv_at hl 0 rfl) ?_
            refine gt_f (v := .ref (G 1)) cx hw 0 (kw_h σ) rfl inX10 0 (by decide) tw_85 ⟨rfl, rfl, Or.inl rfl⟩ rfl dX10_count_66 ?_
            refine gt_f (v := .int (s_c σ 6)) cx hw 1 (kw_b σ) rfl inX0 6 (by decide) tw_51 ⟨rfl, rfl, Or.inl rfl⟩ rfl dX10_count_69 ?_
            exact ret_i σ cx hw (okA_of (by unfold aCount; rw [if_neg (by decide : ¬ (4 : Int32) = 0), if_neg (by decide : ¬ (4 : Int32) = 1), if_neg (by decide : ¬ (4 : Int32) = 2), if_neg (by decide : ¬ (4 : Int32) = 3), if_pos rfl])) dX10_count_72 (Nat.le_of_ble_eq_true rfl) (Nat.le_of_ble_eq_true rfl)
          · refine lv_iload_n cx.x cx.b dX10_count_0 rfl (lv_at hl 1 rfl) ?_
            refine lv_tableOut (tgt := 73) cx.x cx.b dX10_count_1 (sw_o4 w0 w1 w2 w3 w4) (by decide) ?_
            refine lv_bipush (v := (-102)) cx.x cx.b dX10_count_73 (by decide) ?_
            exact ret_i σ cx hw (okA_of (by unfold aCount; rw [if_neg w0, if_neg w1, if_neg w2, if_neg w3, if_neg w4])) dX10_count_75 (Nat.le_of_ble_eq_true rfl) (Nat.le_of_ble_eq_true rfl)
set_option maxHeartbeats 4000000 in
set_option maxRecDepth 100000 in
theorem c_X0_row (l : Launch) (D : va_G) (G : Nat → Nat) (Q : Nat → ClassId) (σ : St) (ix : Int32) : MI l yX0_row cX0_row 3 .int ({ frames := 1, cells := 0, slots := 0, locals := 22 }) D cls (tyl Q) [.ref (G 1), .int ix] (kw G Q) (kw G Q σ) (okA (aBook σ ix)) 0 0 := by
  refine MI_of (by decide) (Nat.le_of_ble_eq_true rfl) ?_
  intro p e s m args below meth c A ls cx hw hl
  have hl : lv_has ls 3 [(0, .ref (G 1)), (1, .int ix)] := hl
  by_cases hv : 0 ≤ ix ∧ ix < kp (s_N σ)
  · obtain ⟨t, ht, rfl⟩ := kp_i hv
    by_cases hq : t ≤ (s_N σ - 1) % 100
    · have hr := row_a ht hq
      refine lv_iload_n cx.x cx.b dX0_row_0 rfl (lv_at hl 1 rfl) ?_
      refine lv_if_lt (tgt := 12) cx.x cx.b dX0_row_1 (by decide) (fun hb1 => absurd hb1 (nI_pos (by omega))) (fun hb1 => ?_)
      refine lv_iload_n cx.x cx.b dX0_row_4 rfl (lv_at hl 1 rfl) ?_
      refine lv_aload_n cx.x cx.b dX0_row_5 rfl (lv_at hl 0 rfl) ?_
      refine gt_f (v := .int (kp (s_N σ))) cx hw 1 (kw_b σ) rfl inX0 2 (by decide) tw_40 ⟨rfl, rfl, Or.inl rfl⟩ rfl dX0_row_6 ?_
      refine lv_icmp_lt (tgt := 14) cx.x cx.b dX0_row_9 (by decide) (fun hb9 => ?_) (fun hb9 => absurd hv.2 hb9)
      refine lv_aload_n cx.x cx.b dX0_row_14 rfl (lv_at hl 0 rfl) ?_
      refine gt_f (v := .int (nx (s_N σ))) cx hw 1 (kw_b σ) rfl inX0 1 (by decide) tw_39 ⟨rfl, rfl, Or.inl rfl⟩ rfl dX0_row_15 ?_
      refine lv_iconst (v := 1) cx.x cx.b dX0_row_18 (by decide) ?_
      refine lv_isub cx.x cx.b dX0_row_19 ?_
      refine lv_iload_n cx.x cx.b dX0_row_20 rfl (lv_at hl 1 rfl) ?_
      refine lv_isub cx.x cx.b dX0_row_21 ?_
      refine lv_istore_n (lv' := [(2, .int (((nx (s_N σ)) - 1) - (nI t))), (0, .ref (G 1)), (1, .int (nI t))]) cx.x cx.b dX0_row_22 rfl hl (by decide) rfl (fun ls hl => ?_)
      refine lv_iload_n cx.x cx.b dX0_row_23 rfl (lv_at hl 0 rfl) ?_
      refine lv_if_ge (tgt := 30) cx.x cx.b dX0_row_24 (by decide) (fun hb24 => ?_) (fun hb24 => absurd (by rw [hr]; exact nI_pos' (by omega)) hb24)
      refine lv_iload_n cx.x cx.b dX0_row_30 rfl (lv_at hl 0 rfl) ?_
      refine lv_iconst (v := 0) cx.x cx.b dX0_row_31 (by decide) ?_
      refine lv_bipush (v := 99) cx.x cx.b dX0_row_32 (by decide) ?_
      refine cgo_i cx hw (rSN_i (host := "BakeHouse") (n := 3) (As := [.int (((nx (s_N σ)) - 1) - (nI t)), .int 0, .int 99]) (rest := []) cx hw (c_X10_within l D G Q σ (((nx (s_N σ)) - 1) - (nI t)) 0 99) (by decide +kernel) tw_103 tw_1 tw_104 ⟨by decide +kernel, rfl, hl.1, (Nat.le_of_ble_eq_true rfl), ⟨(Nat.le_of_ble_eq_true rfl), (Nat.le_of_ble_eq_true rfl)⟩, ⟨(Nat.le_of_ble_eq_true rfl), (Nat.le_of_ble_eq_true rfl)⟩, rfl, rfl⟩ rfl dX0_row_34) (fun r u H locs hp hw => ?_)
      obtain ⟨h8, h9⟩ := hp
      have h8 := h8.symm
      have h9 := h9.symm
      subst h8
      subst h9
      refine lv_if_eq (tgt := 49) cx.x cx.b dX0_row_37 (by decide) (fun hb37 => absurd hb37 (by rw [hr]; exact wth_nI (a := 0) (b := 99) (Nat.zero_le _) (by omega) (by decide))) (fun hb37 => ?_)
      refine lv_aload_n cx.x cx.b dX0_row_40 rfl (lv_at hl 1 rfl) ?_
      refine gt_f (v := .ref (G 2)) cx hw 1 (kw_b σ) rfl inX0 0 (by decide) tw_38 ⟨rfl, rfl, Or.inl rfl⟩ rfl dX0_row_41 ?_
      refine lv_iload_n cx.x cx.b dX0_row_44 rfl (lv_at hl 0 rfl) ?_
      refine ald_i (f := s_g σ) cx hw 2 0 rfl rfl ((s_N σ - 1 - t) % 100) hr (Nat.mod_lt _ (by decide)) (by decide) dX0_row_45 ?_
      refine lv_goto (tgt := 50) cx.x cx.b dX0_row_46 (by decide) ?_
      exact ret_i σ cx hw (okA_of (by unfold aBook; rw [if_pos hv, nI_clamp (by omega)])) dX0_row_50 (Nat.le_of_ble_eq_true rfl) (Nat.le_of_ble_eq_true rfl)
    · obtain ⟨hr0, hr⟩ := row_b ht hq
      refine lv_iload_n cx.x cx.b dX0_row_0 rfl (lv_at hl 1 rfl) ?_
      refine lv_if_lt (tgt := 12) cx.x cx.b dX0_row_1 (by decide) (fun hb1 => absurd hb1 (nI_pos (by omega))) (fun hb1 => ?_)
      refine lv_iload_n cx.x cx.b dX0_row_4 rfl (lv_at hl 1 rfl) ?_
      refine lv_aload_n cx.x cx.b dX0_row_5 rfl (lv_at hl 0 rfl) ?_
      refine gt_f (v := .int (kp (s_N σ))) cx hw 1 (kw_b σ) rfl inX0 2 (by decide) tw_40 ⟨rfl, rfl, Or.inl rfl⟩ rfl dX0_row_6 ?_
      refine lv_icmp_lt (tgt := 14) cx.x cx.b dX0_row_9 (by decide) (fun hb9 => ?_) (fun hb9 => absurd hv.2 hb9)
      refine lv_aload_n cx.x cx.b dX0_row_14 rfl (lv_at hl 0 rfl) ?_
      refine gt_f (v := .int (nx (s_N σ))) cx hw 1 (kw_b σ) rfl inX0 1 (by decide) tw_39 ⟨rfl, rfl, Or.inl rfl⟩ rfl dX0_row_15 ?_
      refine lv_iconst (v := 1) cx.x cx.b dX0_row_18 (by decide) ?_
      refine lv_isub cx.x cx.b dX0_row_19 ?_
      refine lv_iload_n cx.x cx.b dX0_row_20 rfl (lv_at hl 1 rfl) ?_
      refine lv_isub cx.x cx.b dX0_row_21 ?_
      refine lv_istore_n (lv' := [(2, .int (((nx (s_N σ)) - 1) - (nI t))), (0, .ref (G 1)), (1, .int (nI t))]) cx.x cx.b dX0_row_22 rfl hl (by decide) rfl (fun ls hl => ?_)
      refine lv_iload_n cx.x cx.b dX0_row_23 rfl (lv_at hl 0 rfl) ?_
      refine lv_if_ge (tgt := 30) cx.x cx.b dX0_row_24 (by decide) (fun hb24 => absurd hr0 (Int32.not_lt.mpr hb24)) (fun hb24 => ?_)
      refine lv_iinc (v := ((((nx (s_N σ)) - 1) - (nI t)) + 100)) (lv' := [(2, .int ((((nx (s_N σ)) - 1) - (nI t)) + 100)), (0, .ref (G 1)), (1, .int (nI t))]) cx.x cx.b dX0_row_27 hl (k := 0) rfl rfl (by decide) rfl (fun ls hl => ?_)
      refine lv_iload_n cx.x cx.b dX0_row_30 rfl (lv_at hl 0 rfl) ?_
      refine lv_iconst (v := 0) cx.x cx.b dX0_row_31 (by decide) ?_
      refine lv_bipush (v := 99) cx.x cx.b dX0_row_32 (by decide) ?_
      refine cgo_i cx hw (rSN_i (host := "BakeHouse") (n := 3) (As := [.int ((((nx (s_N σ)) - 1) - (nI t)) + 100), .int 0, .int 99]) (rest := []) cx hw (c_X10_within l D G Q σ ((((nx (s_N σ)) - 1) - (nI t)) + 100) 0 99) (by decide +kernel) tw_103 tw_1 tw_104 ⟨by decide +kernel, rfl, hl.1, (Nat.le_of_ble_eq_true rfl), ⟨(Nat.le_of_ble_eq_true rfl), (Nat.le_of_ble_eq_true rfl)⟩, ⟨(Nat.le_of_ble_eq_true rfl), (Nat.le_of_ble_eq_true rfl)⟩, rfl, rfl⟩ rfl dX0_row_34) (fun r u H locs hp hw => ?_)
      obtain ⟨h8, h9⟩ := hp
      have h8 := h8.symm
      have h9 := h9.symm
      subst h8
      subst h9
      refine lv_if_eq (tgt := 49) cx.x cx.b dX0_row_37 (by decide) (fun hb37 => absurd hb37 (by rw [hr]; exact wth_nI (a := 0) (b := 99) (Nat.zero_le _) (by omega) (by decide))) (fun hb37 => ?_)
      refine lv_aload_n cx.x cx.b dX0_row_40 rfl (lv_at hl 1 rfl) ?_
      refine gt_f (v := .ref (G 2)) cx hw 1 (kw_b σ) rfl inX0 0 (by decide) tw_38 ⟨rfl, rfl, Or.inl rfl⟩ rfl dX0_row_41 ?_
      refine lv_iload_n cx.x cx.b dX0_row_44 rfl (lv_at hl 0 rfl) ?_
      refine ald_i (f := s_g σ) cx hw 2 0 rfl rfl ((s_N σ - 1 - t) % 100) hr (Nat.mod_lt _ (by decide)) (by decide) dX0_row_45 ?_
      refine lv_goto (tgt := 50) cx.x cx.b dX0_row_46 (by decide) ?_
      exact ret_i σ cx hw (okA_of (by unfold aBook; rw [if_pos hv, nI_clamp (by omega)])) dX0_row_50 (Nat.le_of_ble_eq_true rfl) (Nat.le_of_ble_eq_true rfl)
  · refine lv_iload_n cx.x cx.b dX0_row_0 rfl (lv_at hl 1 rfl) ?_
    refine lv_if_lt (tgt := 12) cx.x cx.b dX0_row_1 (by decide) (fun hb1 => ?_) (fun hb1 => ?_)
    · refine lv_iconst (v := (-1)) cx.x cx.b dX0_row_12 (by decide) ?_
      exact ret_i σ cx hw (okA_of (by unfold aBook; rw [if_neg hv])) dX0_row_13 (Nat.le_of_ble_eq_true rfl) (Nat.le_of_ble_eq_true rfl)
    · refine lv_iload_n cx.x cx.b dX0_row_4 rfl (lv_at hl 1 rfl) ?_
      refine lv_aload_n cx.x cx.b dX0_row_5 rfl (lv_at hl 0 rfl) ?_
      refine gt_f (v := .int (kp (s_N σ))) cx hw 1 (kw_b σ) rfl inX0 2 (by decide) tw_40 ⟨rfl, rfl, Or.inl rfl⟩ rfl dX0_row_6 ?_
      refine lv_icmp_lt (tgt := 14) cx.x cx.b dX0_row_9 (by decide) (fun hb9 => absurd ⟨Int32.not_lt.mp hb1, hb9⟩ hv) (fun hb9 => ?_)
      refine lv_iconst (v := (-1)) cx.x cx.b dX0_row_12 (by decide) ?_
      exact ret_i σ cx hw (okA_of (by unfold aBook; rw [if_neg hv])) dX0_row_13 (Nat.le_of_ble_eq_true rfl) (Nat.le_of_ble_eq_true rfl)
set_option maxHeartbeats 4000000 in
set_option maxRecDepth 100000 in
theorem c_X10_book (l : Launch) (D : va_G) (G : Nat → Nat) (Q : Nat → ClassId) (σ : St) (ix : Int32) : MI l yX10_book cX10_book 2 .int ({ frames := 2, cells := 0, slots := 0, locals := 44 }) D cls (tyl Q) [.ref (G 0), .int ix] (kw G Q) (kw G Q σ) (okA (aBook σ ix)) 0 0 := by
  refine MI_of (by decide) (Nat.le_of_ble_eq_true rfl) ?_
  intro p e s m args below meth c A ls cx hw hl
  have hl : lv_has ls 2 [(0, .ref (G 0)), (1, .int ix)] := hl
  refine lv_aload_n cx.x cx.b dX10_book_0 rfl (lv_at hl 0 rfl) ?_
  refine gt_f (v := .ref (G 1)) cx hw 0 (kw_h σ) rfl inX10 0 (by decide) tw_85 ⟨rfl, rfl, Or.inl rfl⟩ rfl dX10_book_1 ?_
  refine lv_iload_n cx.x cx.b dX10_book_4 rfl (lv_at hl 1 rfl) ?_
  refine cgo_i cx hw (rV_i (q0 := 1) (n := 1) (As := [.int ix]) (rest := []) cx hw (c_X0_row l D G Q σ ix) (gd_V tw_526 tw_527 tw_528 tw_2 tw_529) rfl ⟨by decide +kernel, rfl, hl.1, (Nat.le_of_ble_eq_true rfl), ⟨(Nat.le_of_ble_eq_true rfl), (Nat.le_of_ble_eq_true rfl)⟩, ⟨(Nat.le_of_ble_eq_true rfl), (Nat.le_of_ble_eq_true rfl)⟩, rfl, rfl⟩ rfl (kw_b σ) rfl dX10_book_5) (fun r u H locs hp hw => ?_)
  obtain ⟨g1, h8, h9⟩ := hp
  change _ = σ at h9
  have h8 := h8.symm
  have h9 := h9.symm
  subst h8
  subst h9
  exact ret_i σ cx hw ⟨rfl, rfl, rfl⟩ dX10_book_8 (Nat.le_of_ble_eq_true rfl) (Nat.le_of_ble_eq_true rfl)
end
section
section VXC
variable {p : Program} {l : Launch} {e : Env} {R : Room} {s : State} {m : MethodId} {args : Array Value} {below : List Frame} {meth : Method} {c : Code} {H : Heap} {locs : List Loc} {cells slots : Nat} {Q : State → Prop}
variable {mc ms : Nat} {free : Addr → Prop} {A0 A1 : Nat → Prop} {H0 : Heap} {a : Array Value} {pc : Nat} {ls : Array Slot} {st0 rest : List Value}
/-- caught by the row x of this method's table; the rows ahead don't take it -/
theorem vx_catch {own name : String} {E : String} {ce : Cell} {q : Addr} (hown : s.vm.findClass own = some m.cls) (pre : List ExceptionTableEntry) (x : ExceptionTableEntry) (suf : List ExceptionTableEntry) (hsplit : c.exceptionTable.toList = pre ++ x :: suf)
    (hpass : ∀ z ∈ pre, covers z pc = false ∨ (z.catchType ≠ 0 ∧ ∃ nm : String, (Cond.classLink own z.catchType nm).before args s = true ∧ va_Nc E nm s)) (hx : covers x pc = true) (h0 : x.catchType ≠ 0)
    (hlink : (Cond.classLink own x.catchType name).before args s = true) (hcast : (Cond.castable E name).before args s = true) (hcell : H[q]? = some ce) (hv : ce.vm = .none) (hcl : s.vm.findClass E = some ce.cls)
    (kk : W p l e R s m args below meth c H locs cells slots Q (F0 m x.handlerPc ls [.ref q])) : vx_W p l e R s m args below meth c H locs cells slots Q (F0 m pc ls rest) q := by
  intro T hT X
  have hpl : e.platform.magicAccessors = ({} : Platform).magicAccessors := by rw [X.admits.platform]
  obtain ⟨c3, c4, hc3, hc4, hasg⟩ := Cond.castable_spec hcast
  cases Option.some.inj (hc3.symm.trans hcl)
  obtain ⟨c5, hc5, hcl5⟩ := Cond.classLink_spec hown hlink e.platform hpl
  cases Option.some.inj (hc4.symm.trans hc5)
  obtain ⟨vm', X', st⟩ := Jvm.Stand.thenCaughtThrough X q (g := F0 m pc ls rest) rfl (Steps.refl _) (by rw [hT]; exact hcell) (by rw [hv]; rfl) (by obtain ⟨k9, h9, -⟩ := Vm.findClass_spec hcl; exact ⟨k9, h9⟩) pre x suf hsplit
    (fun z hz => by
      rcases hpass z hz with h | ⟨hz0, nm, hl1, hn1⟩
      · exact Or.inl h
      · obtain ⟨c6, hc6, hcl6⟩ := Cond.classLink_spec hown hl1 e.platform hpl
        obtain ⟨a8, b8, h1, h2, h3⟩ := hn1
        cases Option.some.inj (h1.symm.trans hcl)
        cases Option.some.inj (h2.symm.trans hc6)
        exact Or.inr ⟨hz0, _, hcl6, h3⟩) hx (Or.inr ⟨h0, c4, hcl5, hasg⟩)
  obtain ⟨t, a1, b1⟩ := kk (T.setVm vm') hT X'
  exact ⟨t, st.trans a1, b1⟩
end VXC
section Tab27
variable {p : Program} {l : Launch} {e : Env} {R : Room} {s : State} {m : MethodId} {args : Array Value} {below : List Frame} {meth : Method} {c : Code} {H : Heap} {locs : List Loc} {cells slots : Nat} {Q : State → Prop}
variable {A : Nat → Prop} {D : va_G} {cl : List vw_C} {tys : List (ClassId × FieldType)} {cc : ByteArray} {nL : Nat} {own : String} {ret : Option FieldType} {w0 : va_W}
variable {pc : Nat} {ls : Array Slot} {rest st0 : List Value} {S : Type} {w : S → va_W} {mc ms : Nat} {y : MethodName} {rm : Room} {as As : List Value} {idx nLy n : Nat}
/-- a method with a table of its own that returns an int -/
def MW {S : Type} (l : Launch) (y : MethodName) (b : ByteArray) (nL : Nat) (ret : FieldType) (hh : List (Nat × Nat × Nat × Nat)) (rm : Room) (D : va_G) (cl : List vw_C) (tys : List (ClassId × FieldType)) (as : List Value) (w : S → va_W) (w0 : va_W) (post : Int32 → S → Prop) (mc ms : Nat) : Prop :=
  ∀ sz, Met l y (.codeWith y b nL (some ret) hh :: tg) rm (va_Pc as (bz_pre D cl tys w0 sz)) (va_Qi post (bz_B D cl w w0 sz) (va_A w0 sz)) mc ms (va_A w0 sz)
theorem MW_of {b : ByteArray} {ry : FieldType} {hh : List (Nat × Nat × Nat × Nat)} {post : Int32 → S → Prop} {nL : Nat} (hy : plainName y.cls = true) (hn : (lg_sl as).length ≤ nL)
    (body : ∀ (p : Program) (e : Env) (s : State) (m : MethodId) (args : Array Value) (below : List Frame) (meth : Method) (c : Code) (A : Nat → Prop) (ls : Array Slot), c.exceptionTable.toList = tableOf hh → Fx p s m args meth c A D cl tys b nL y.cls (some ry) → Wd D cl A s s.heap [] w0 → lv_has ls nL (lv_args 0 as) → W p l e rm s m args below meth c s.heap [] 0 0 (QI D cl w A post below args s mc ms) (F0 m 0 ls [])) : MW l y b nL ry hh rm D cl tys as w w0 post mc ms := by
  intro sz
  refine va_MetW (cc := b) (maxL := nL) (ret := some ry) (hh := hh) hy rfl ?_
  intro p e s m args below meth c s₁ B hml hv
  obtain ⟨ha, hsz, hP, hK, hD, hE⟩ := hv
  subst ha
  rw [lg_entry_eq]
  have ht : c.exceptionTable.toList = tableOf hh := vx_table (x := y) B (atoms_spec (ws := .codeWith y b nL (some ry) hh :: tg) B.pre _ List.mem_cons_self)
  exact body p e s m _ below meth c (va_A w0 sz) _ ht ⟨⟨B.exec, B.bytes, hml, findClass_of_methodNamed B.named, fun w h => atoms_spec (ws := .codeWith y b nL (some ry) hh :: tg) B.pre w (List.mem_cons_of_mem _ h)⟩, B.returns, B.notSynchronized, hK, hE, fun q h => Or.inr (by rw [← hsz]; exact h)⟩ ⟨hP, hD.self, va_S.rf⟩ (lv_entry as hn)
theorem rSW_i {post : Int32 → S → Prop} {b : ByteArray} {ry : FieldType} {hh : List (Nat × Nat × Nat × Nat)} (cx : Fx p s m args meth c A D cl tys cc nL own ret) (hw : Wd D cl A s H locs w0) (hM : MW l y b nLy ry hh rm D cl tys As w w0 post mc ms)
    (h1 : Cond.methodLink own idx y ∈ tg) (h2 : Cond.static y ∈ tg) (h3 : Cond.initialized y.cls ∈ tg) (h5 : Cond.codeWith y b nLy (some ry) hh ∈ tg) (hcr : CwR R rm nLy mc ms cells slots y n As st0 rest ls nL) (hst : st0 = As.reverse ++ rest) (hdg : decode cc pc = .ok (.invokestatic idx, 3)) :
    RunsI p l e R s m args below meth c H locs cells slots pc ls st0 rest D cl w w0 post mc ms := by
  obtain ⟨hd, hn, hls, hca, hR, hf, hrc, hrs⟩ := hcr
  exact ⟨_, vx_runSW cx.1 (hM H.size) (vx_cwSW n cx.ts (tg_in (tg_c h1 (tg_c h2 (tg_c h3 (tg_c h5 tg_s))))) rfl hrc hrs hd hR) ⟨bz_blind, hw.pre cx⟩ rfl hn hls hst (lv_room hca) hdg hf⟩
/-- the first row of the table catches E -/
theorem ctch {own name E : String} {ce : Cell} {q : Addr} {a b h t : Nat} {more : List (Nat × Nat × Nat × Nat)} (cx : Fx p s m args meth c A D cl tys cc nL own ret) (ht : c.exceptionTable.toList = tableOf ((a, b, h, t) :: more)) (hc : a ≤ pc ∧ pc < b) (h0 : t ≠ 0) (hl : Cond.classLink own t name ∈ tg) (hcast : Cond.castable E name ∈ nw_C) (h1 : H[q]? = some ce) (h2 : ce.vm = .none) (h3 : s.vm.findClass E = some ce.cls)
    (kk : W p l e R s m args below meth c H locs cells slots Q (F0 m h ls [.ref q])) : vx_W p l e R s m args below meth c H locs cells slots Q (F0 m pc ls rest) q := by
  refine vx_catch cx.ow [] ⟨a, b, h, t⟩ (tableOf more) (by rw [ht]; rfl) (fun z hz => by cases hz) (by simp [covers, hc.1, hc.2]) h0 (cx.ts _ hl) (va_Nw.use (nw_Cot _ hcast) (cx.ev.2.2.2.2.1 _ hcast)) h1 h2 h3 kk
/-- the second row catches E, the first doesn't -/
theorem ctch2 {own name name2 E : String} {ce : Cell} {q : Addr} {a b h t a2 b2 h2' t2 : Nat} {more : List (Nat × Nat × Nat × Nat)} (cx : Fx p s m args meth c A D cl tys cc nL own ret) (ht : c.exceptionTable.toList = tableOf ((a, b, h, t) :: (a2, b2, h2', t2) :: more)) (hc : a2 ≤ pc ∧ pc < b2) (h01 : t ≠ 0) (h0 : t2 ≠ 0) (hl1 : Cond.classLink own t name ∈ tg) (hn : va_Nc E name s) (hl : Cond.classLink own t2 name2 ∈ tg) (hcast : Cond.castable E name2 ∈ nw_C) (h1 : H[q]? = some ce) (h2 : ce.vm = .none) (h3 : s.vm.findClass E = some ce.cls)
    (kk : W p l e R s m args below meth c H locs cells slots Q (F0 m h2' ls [.ref q])) : vx_W p l e R s m args below meth c H locs cells slots Q (F0 m pc ls rest) q := by
  refine vx_catch cx.ow [⟨a, b, h, t⟩] ⟨a2, b2, h2', t2⟩ (tableOf more) (by rw [ht]; rfl) (fun z hz => ?_) (by simp [covers, hc.1, hc.2]) h0 (cx.ts _ hl) (va_Nw.use (nw_Cot _ hcast) (cx.ev.2.2.2.2.1 _ hcast)) h1 h2 h3 kk
  rw [List.mem_singleton.mp hz]
  exact Or.inr ⟨h01, name, cx.ts _ hl1, hn⟩
end Tab27
end
