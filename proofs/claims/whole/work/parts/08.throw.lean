/-! 'throw new E("text")' of the four plain kinds -/
def at_mem (own : String) (ic : Nat) (cls : String) (names : List String) : Prop := ∀ w ∈ (vx_atS own ic cls names).filter goodWord, w ∈ lw_tbl
set_option maxRecDepth 100000 in
theorem at_ISE : at_mem "BakeHouse$Brioche" 36 "java/lang/IllegalStateException" ["java/lang/RuntimeException", "java/lang/Exception"] := by unfold at_mem; decide +kernel
set_option maxRecDepth 100000 in
theorem at_ARI : at_mem "BakeHouse$Flat" 43 "java/lang/ArithmeticException" ["java/lang/RuntimeException", "java/lang/Exception"] := by unfold at_mem; decide +kernel
set_option maxRecDepth 100000 in
theorem at_NAS : at_mem "BakeHouse" 49 "java/lang/NegativeArraySizeException" ["java/lang/RuntimeException", "java/lang/Exception"] := by unfold at_mem; decide +kernel
set_option maxRecDepth 100000 in
theorem at_IOB : at_mem "BakeHouse$Dough" 73 "java/lang/ArrayIndexOutOfBoundsException" ["java/lang/IndexOutOfBoundsException", "java/lang/RuntimeException", "java/lang/Exception"] := by unfold at_mem; decide +kernel
section Thr8
variable {p : Program} {l : Launch} {e : Env} {R : Room} {s : State} {m : MethodId} {args : Array Value} {below : List Frame} {meth : Method} {c : Code} {H : Heap} {locs : List Loc} {cells slots : Nat} {Q : State → Prop}
variable {A : Nat → Prop} {D : va_G} {cl : List vw_C} {tys : List (ClassId × FieldType)} {cc : ByteArray} {nL : Nat} {own : String} {ret : Option FieldType}
variable {pc : Nat} {ls : Array Slot} {rest : List Value}
variable {S : Type} {w : S → va_W} {mc ms : Nat}
/-- what a throw needs of its words -/
def ThrOk (s : State) (args : Array Value) (own cls text : String) (names : List String) (ik is ic : Nat) : Prop :=
  Bundle.fit cls = true ∧ (∀ n ∈ names, Bundle.fit n = true) ∧ Cond.classLink own ik cls ∈ tg ∧ Cond.initialized cls ∈ tg ∧ (∃ sa, vk_R own is text sa s) ∧ (∀ w ∈ vx_atS own ic cls names, w.before args s = true) ∧ (∀ w ∈ Cond.classLink own ik cls :: Cond.initialized cls :: vx_atS own ic cls names, vx_ot w = true)
theorem thr_hat {cls : String} {names : List String} {ic : Nat} {B : List Cond} (cx : Fx p s m args meth c A D cl tys cc nL own ret) (hm : at_mem own ic cls names) (hB : ∀ w ∈ (vx_atS own ic cls names).filter (fun w => !goodWord w), w ∈ B) (hN : ∀ w ∈ B, w ∈ nw_C) : ∀ w ∈ vx_atS own ic cls names, w.before args s = true :=
  vx_hat (fun w hw => cx.ts w (tg_of (hm w hw) (List.mem_filter.mp hw).2)) hB (fun w hw => va_Nw.use (nw_Cot w (hN w hw)) (cx.ev.2.2.2.2.1 w (hN w hw)))
theorem thr_q {px : String → S → Prop} {Qc : Array Value → State → Outcome → State → Prop} (u : S) {cls text : String} {names : List String} {ik is ic : Nat} (hl : l.stackTraces = false) (ht : ∀ x ∈ c.exceptionTable.toList, False) (cx : Fx p s m args meth c A D cl tys cc nL own ret) (hw : Wd D cl A s H locs (w u)) (hok : ThrOk s args own cls text names ik is ic) (hls : ls.size = nL)
    (d0 : decode cc pc = .ok (.new ik, 3)) (d3 : decode cc (pc + 3) = .ok (.dup, 1)) (d4 : decode cc (pc + 4) = .ok (.ldc is, 2)) (d6 : decode cc (pc + 6) = .ok (.invokespecial ic, 3)) (d9 : decode cc (pc + 9) = .ok (.athrow, 1))
    (hR : names.length + 3 < R.frames ∧ (rest.map fun v => v.category).sum + (13 * (names.length + 1) + 43) ≤ R.locals ∧ cells + 1 ≤ R.cells ∧ slots + 6 ≤ R.slots) (hp : px cls u) (hc : cells + 1 ≤ mc) (hs : slots + 6 ≤ ms) :
    W p l e R s m args below meth c H locs cells slots (vx_MQ below Qc (QX D cl w A px) args s mc ms A) (F0 m pc ls rest) := by
  obtain ⟨h1, h2, h3, h4, ⟨sa, h5⟩, h6, h7⟩ := hok
  refine vx_throwS cx.x cx.b hl cx.ow h1 h2 (cx.ts _ h3) (cx.ts _ h4) h5 h6 h7 cx.ev.1 cx.ev.2.1 hw.2.2 (by rw [hls]; exact cx.ml.symm) d0 d3 d4 d6 d9 (fun x hx => (ht x hx).elim) hR.1 hR.2.1 hR.2.2.1 hR.2.2.2 cx.lk (fun t ha hz hq => ?_) hw.2.2.2.2 hc hs
  refine ⟨u, trivial, ⟨hp, hw.1.kept (fun k q hk => hq q.1 ((hw.1 k q hk).lt)), hw.2.1⟩, Nat.le_trans hw.2.2.1 hz, fun q h1 h2 => ?_⟩
  rw [hq q (Nat.lt_of_lt_of_le h1 hw.2.2.1)]
  exact hw.2.2.2.1 q h1 h2
theorem thr_i {post : Int32 → S → Prop} {px : String → S → Prop} (u : S) {cls text : String} {names : List String} {ik is ic : Nat} (hl : l.stackTraces = false) (ht : ∀ x ∈ c.exceptionTable.toList, False) (cx : Fx p s m args meth c A D cl tys cc nL own ret) (hw : Wd D cl A s H locs (w u)) (hok : ThrOk s args own cls text names ik is ic) (hls : ls.size = nL)
    (d0 : decode cc pc = .ok (.new ik, 3)) (d3 : decode cc (pc + 3) = .ok (.dup, 1)) (d4 : decode cc (pc + 4) = .ok (.ldc is, 2)) (d6 : decode cc (pc + 6) = .ok (.invokespecial ic, 3)) (d9 : decode cc (pc + 9) = .ok (.athrow, 1))
    (hR : names.length + 3 < R.frames ∧ (rest.map fun v => v.category).sum + (13 * (names.length + 1) + 43) ≤ R.locals ∧ cells + 1 ≤ R.cells ∧ slots + 6 ≤ R.slots) (hp : px cls u) (hc : cells + 1 ≤ mc) (hs : slots + 6 ≤ ms) :
    W p l e R s m args below meth c H locs cells slots (QXI D cl w A post px below args s mc ms) (F0 m pc ls rest) := thr_q u hl ht cx hw hok hls d0 d3 d4 d6 d9 hR hp hc hs
theorem thr_v {post : S → Prop} {px : String → S → Prop} (u : S) {cls text : String} {names : List String} {ik is ic : Nat} (hl : l.stackTraces = false) (ht : ∀ x ∈ c.exceptionTable.toList, False) (cx : Fx p s m args meth c A D cl tys cc nL own ret) (hw : Wd D cl A s H locs (w u)) (hok : ThrOk s args own cls text names ik is ic) (hls : ls.size = nL)
    (d0 : decode cc pc = .ok (.new ik, 3)) (d3 : decode cc (pc + 3) = .ok (.dup, 1)) (d4 : decode cc (pc + 4) = .ok (.ldc is, 2)) (d6 : decode cc (pc + 6) = .ok (.invokespecial ic, 3)) (d9 : decode cc (pc + 9) = .ok (.athrow, 1))
    (hR : names.length + 3 < R.frames ∧ (rest.map fun v => v.category).sum + (13 * (names.length + 1) + 43) ≤ R.locals ∧ cells + 1 ≤ R.cells ∧ slots + 6 ≤ R.slots) (hp : px cls u) (hc : cells + 1 ≤ mc) (hs : slots + 6 ≤ ms) :
    W p l e R s m args below meth c H locs cells slots (QXV D cl w A post px below args s mc ms) (F0 m pc ls rest) := thr_q u hl ht cx hw hok hls d0 d3 d4 d6 d9 hR hp hc hs
set_option maxRecDepth 100000 in
theorem ok_ISE (cx : Fx p s m args meth c A D cl tys cc nL "BakeHouse$Brioche" ret) : ThrOk s args "BakeHouse$Brioche" "java/lang/IllegalStateException" "the brioche is fallen" ["java/lang/RuntimeException", "java/lang/Exception"] 32 34 36 :=
  ⟨by decide +kernel, by decide +kernel, by decide +kernel, by decide +kernel, cx.ev.2.2.1.1, thr_hat cx at_ISE (B := [.castable "java/lang/IllegalStateException" "java/lang/IllegalStateException", .declares ⟨"java/lang/RuntimeException", "<init>", "(Ljava/lang/String;)V"⟩, .declares ⟨"java/lang/Exception", "<init>", "(Ljava/lang/String;)V"⟩, .declares ⟨"java/lang/Throwable", "<init>", "(Ljava/lang/String;)V"⟩]) (by decide +kernel) (by decide +kernel), by decide +kernel⟩
set_option maxRecDepth 100000 in
theorem ok_ARI (cx : Fx p s m args meth c A D cl tys cc nL "BakeHouse$Flat" ret) : ThrOk s args "BakeHouse$Flat" "java/lang/ArithmeticException" "a flat bread without a crust" ["java/lang/RuntimeException", "java/lang/Exception"] 39 41 43 :=
  ⟨by decide +kernel, by decide +kernel, by decide +kernel, by decide +kernel, cx.ev.2.2.1.2.2.2.2, thr_hat cx at_ARI (B := [.castable "java/lang/ArithmeticException" "java/lang/ArithmeticException", .declares ⟨"java/lang/RuntimeException", "<init>", "(Ljava/lang/String;)V"⟩, .declares ⟨"java/lang/Exception", "<init>", "(Ljava/lang/String;)V"⟩, .declares ⟨"java/lang/Throwable", "<init>", "(Ljava/lang/String;)V"⟩]) (by decide +kernel) (by decide +kernel), by decide +kernel⟩
set_option maxRecDepth 100000 in
theorem ok_NAS (cx : Fx p s m args meth c A D cl tys cc nL "BakeHouse" ret) : ThrOk s args "BakeHouse" "java/lang/NegativeArraySizeException" "a shelf of less than no places" ["java/lang/RuntimeException", "java/lang/Exception"] 45 47 49 :=
  ⟨by decide +kernel, by decide +kernel, by decide +kernel, by decide +kernel, cx.ev.2.2.1.2.1, thr_hat cx at_NAS (B := [.castable "java/lang/NegativeArraySizeException" "java/lang/NegativeArraySizeException", .declares ⟨"java/lang/RuntimeException", "<init>", "(Ljava/lang/String;)V"⟩, .declares ⟨"java/lang/Exception", "<init>", "(Ljava/lang/String;)V"⟩, .declares ⟨"java/lang/Throwable", "<init>", "(Ljava/lang/String;)V"⟩]) (by decide +kernel) (by decide +kernel), by decide +kernel⟩
set_option maxRecDepth 100000 in
theorem ok_IOB (cx : Fx p s m args meth c A D cl tys cc nL "BakeHouse$Dough" ret) : ThrOk s args "BakeHouse$Dough" "java/lang/ArrayIndexOutOfBoundsException" "the shelf has no such place" ["java/lang/IndexOutOfBoundsException", "java/lang/RuntimeException", "java/lang/Exception"] 69 71 73 :=
  ⟨by decide +kernel, by decide +kernel, by decide +kernel, by decide +kernel, cx.ev.2.2.1.2.2.2.1, thr_hat cx at_IOB (B := [.castable "java/lang/ArrayIndexOutOfBoundsException" "java/lang/ArrayIndexOutOfBoundsException", .declares ⟨"java/lang/IndexOutOfBoundsException", "<init>", "(Ljava/lang/String;)V"⟩, .declares ⟨"java/lang/RuntimeException", "<init>", "(Ljava/lang/String;)V"⟩, .declares ⟨"java/lang/Exception", "<init>", "(Ljava/lang/String;)V"⟩, .declares ⟨"java/lang/Throwable", "<init>", "(Ljava/lang/String;)V"⟩]) (by decide +kernel) (by decide +kernel), by decide +kernel⟩
end Thr8
