def kwO (G : Nat → Nat) (Q : Nat → ClassId) (ou : Nat) (u : St × (Nat → Int64)) : va_W := [(ou, .inl (Q 3, 1, .inr (.inl u.2)))] ++ kw G Q u.1
/-- what a wrapper of the law gives: the code of what was thrown, or 0 and the answer in the array -/
def okO (o : Ans) (r : Int32) (u : St × (Nat → Int64)) : Prop := r = nI o.2.1 ∧ o.2.1 ≤ 2 ∧ u.1 = o.2.2 ∧ (o.2.1 = 0 → u.2 0 = o.1.toInt64)
section Law46
variable {p : Program} {l : Launch} {e : Env} {R : Room} {s : State} {m : MethodId} {args : Array Value} {below : List Frame} {meth : Method} {c : Code} {H : Heap} {locs : List Loc} {cells slots : Nat} {Q : State → Prop}
variable {A : Nat → Prop} {D : va_G} {cl : List vw_C} {tys : List (ClassId × FieldType)} {cc : ByteArray} {nL : Nat} {own : String} {ret : Option FieldType} {w0 : va_W}
variable {pc : Nat} {ls : Array Slot} {rest : List Value} {a : Nat}
theorem ast_l (cx : Fx p s m args meth c A D cl tys cc nL own ret) (hw : Wd D cl A s H locs w0) (q0 t0 : Nat) {cA : ClassId} {n : Nat} {f : Nat → Int64} (ha : w0[q0]? = some (a, .inl (cA, n, .inr (.inl f)))) (ht : tys[t0]? = some (cA, .long)) (j : Nat) {i : Int32} {x : Int64} (hi : i = nI j) (hj : j < n) (hn : n < 2 ^ 31) (hdg : decode cc pc = .ok (.lastore, 1)) {w1 : va_W} (hset : w0.set q0 (a, .inl (cA, n, .inr (.inl (vp_updL f j x)))) = w1)
    (kk : ∀ (H1 : Heap) (locs1 : List Loc), Wd D cl A s H1 locs1 w1 → W p l e R s m args below meth c H1 locs1 cells slots Q (F0 m (pc + 1) ls rest)) : W p l e R s m args below meth c H locs cells slots Q (F0 m pc ls (.long x :: .int i :: .ref a :: rest)) := by
  subst hi
  subst hset
  refine va_last cx.x cx.b cx.k hw.1 hw.2.1 hw.2.2 q0 t0 ha ht (vp_in_nI hj hn) hdg (fun H1 locs1 h1 h2 h3 => ?_)
  rw [nI_clamp (Nat.lt_trans hj hn)] at h1 h2
  exact kk H1 locs1 ⟨h1, h2, h3⟩
theorem ald_l (cx : Fx p s m args meth c A D cl tys cc nL own ret) (hw : Wd D cl A s H locs w0) (q0 t0 : Nat) {cA : ClassId} {n : Nat} {f : Nat → Int64} (ha : w0[q0]? = some (a, .inl (cA, n, .inr (.inl f)))) (ht : tys[t0]? = some (cA, .long)) (j : Nat) {i : Int32} (hi : i = nI j) (hj : j < n) (hn : n < 2 ^ 31) (hdg : decode cc pc = .ok (.laload, 1))
    (kk : W p l e R s m args below meth c H locs cells slots Q (F0 m (pc + 1) ls (.long (f j) :: rest))) : W p l e R s m args below meth c H locs cells slots Q (F0 m pc ls (.int i :: .ref a :: rest)) := by
  subst hi
  refine va_lald cx.x cx.b cx.k hw.1 q0 t0 ha ht (vp_in_nI hj hn) hdg ?_
  rw [nI_clamp (Nat.lt_trans hj hn)]
  exact kk
end Law46
theorem okO_0 {o : Ans} {x : Int32} {u : St} {fo : Nat → Int64} (h : okA o x u) : okO o 0 (u, vp_updL fo 0 x.toInt64) := by
  obtain ⟨h1, h2, h3⟩ := h
  refine ⟨by rw [h1]; rfl, by rw [h1]; decide, h3, fun _ => ?_⟩
  show vp_updL fo 0 x.toInt64 0 = _
  rw [h2]; exact pk_uLs
theorem okO_1 {o : Ans} {u : St} {fo : Nat → Int64} {w : Nat} (hw : ¬ w = 0 ∧ w ≤ 2) (h1 : o.2.1 = w) (h2 : u = o.2.2) : okO o (nI w) (u, fo) := ⟨by rw [h1], by rw [h1]; exact hw.2, h2, fun h => absurd (h1.symm.trans h) hw.1⟩
