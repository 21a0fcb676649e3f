/-! a callee over the right part of a world: the left part stays -/
section Frame45
variable {p : Program} {l : Launch} {e : Env} {R : Room} {s : State} {m : MethodId} {args : Array Value} {below : List Frame} {meth : Method} {c : Code} {H : Heap} {locs : List Loc} {cells slots : Nat} {Q : State → Prop}
variable {A : Nat → Prop} {D : va_G} {cl : List vw_C} {tys : List (ClassId × FieldType)} {cc : ByteArray} {nL : Nat} {own : String} {ret : Option FieldType} {y0 w0 : va_W}
variable {pc : Nat} {ls : Array Slot} {rest st0 : List Value}
theorem at_l {y w : va_W} {k : Nat} {q : Nat × va_E} (h : y[k]? = some q) : (y ++ w)[k]? = some q := by
  rw [List.getElem?_append_left (List.getElem?_eq_some_iff.mp h).1]; exact h
theorem at_r {y w : va_W} {k : Nat} {q : Nat × va_E} (h : w[k]? = some q) : (y ++ w)[y.length + k]? = some q := by
  rw [List.getElem?_append_right (Nat.le_add_right _ _), Nat.add_sub_cancel_left]; exact h
theorem Wd.r (hw : Wd D cl A s H locs (y0 ++ w0)) : Wd D cl A s H locs w0 := by
  refine ⟨fun k q h => hw.1 _ q (at_r h), ⟨fun i j a b h1 h2 e => ?_, fun k q h => hw.2.1.2 _ q (at_r h)⟩, hw.2.2⟩
  have := hw.2.1.1 _ _ a b (at_r h1) (at_r h2) e
  omega
theorem Wd.lf (hw : Wd D cl A s H locs (y0 ++ w0)) : Wd D cl A s H locs y0 :=
  ⟨fun k q h => hw.1 _ q (at_l h), ⟨fun i j a b h1 h2 e => hw.2.1.1 _ _ a b (at_l h1) (at_l h2) e, fun k q h => hw.2.1.2 _ q (at_l h)⟩, hw.2.2⟩
theorem Wd.ne (hw : Wd D cl A s H locs (y0 ++ w0)) {i j : Nat} {a b : Nat × va_E} (h1 : y0[i]? = some a) (h2 : w0[j]? = some b) : a.1 ≠ b.1 := by
  intro e
  have h := hw.2.1.1 _ _ a b (at_l h1) (at_r h2) e
  have := (List.getElem?_eq_some_iff.mp h1).1
  omega
theorem Wd.frame {S : Type} {w : S → va_W} {u : S} {t : State} {H1 : Heap} {locs1 : List Loc} (cx : Fx p s m args meth c A D cl tys cc nL own ret) (hw : Wd D cl A s H locs (y0 ++ w0)) (ht : t.heap = H1) (hP1 : va_P D cl (w u) t.heap) (hD1 : va_D (va_A w0 H.size) (w u)) (hk : ∀ q : Nat, q < H.size → ¬ va_A w0 H.size q → H1[q]? = H[q]?) (hS : va_S A s.heap H1 locs1) : Wd D cl A s H1 locs1 (y0 ++ w u) := by
  have hno : ∀ (k : Nat) (q : Nat × va_E), y0[k]? = some q → q.1 < H.size ∧ ¬ va_A w0 H.size q.1 := by
    intro k q h
    have hlt : q.1 < H.size := (hw.lf.1 k q h).lt
    refine ⟨hlt, ?_⟩
    rintro (⟨j, e, hj⟩ | hj)
    · exact hw.ne h hj rfl
    · omega
  refine ⟨va_P.app (hw.lf.1.kept (fun k q h => hk q.1 (hno k q h).1 (hno k q h).2)) (by rw [← ht]; exact hP1), va_D.app hw.lf.2.1 (hD1.weaken (fun _ q _ h => hw.r.free cx q.1 h)) (fun i j a b h1 h2 e => ?_), hS⟩
  exact (hno i a h1).2 (by rw [e]; exact hD1.2 j b h2)
theorem cgoF_i {S : Type} {w : S → va_W} {post : Int32 → S → Prop} {mc ms : Nat} (cx : Fx p s m args meth c A D cl tys cc nL own ret) (hw : Wd D cl A s H locs (y0 ++ w0)) (hr : RunsI p l e R s m args below meth c H locs cells slots pc ls st0 rest D cl w w0 post mc ms)
    (kk : ∀ (r : Int32) (u : S) (H1 : Heap) (locs1 : List Loc), post r u → Wd D cl A s H1 locs1 (y0 ++ w u) → W p l e R s m args below meth c H1 locs1 (cells + mc) (slots + ms) Q (F0 m (pc + 3) ls (.int r :: rest))) : W p l e R s m args below meth c H locs cells slots Q (F0 m pc ls st0) := by
  obtain ⟨a, hr⟩ := hr
  exact va_calli hr hw.2.2 (fun q _ h => hw.r.free cx q h) (hw.r.free cx) (fun r u t H1 locs1 ht _ hp hB _ hk hS => kk r u H1 locs1 hp (hw.frame cx ht hB.1 hB.2 hk hS))
theorem cgoF_xi {S : Type} {w : S → va_W} {post : Int32 → S → Prop} {px : String → S → Prop} {mc ms : Nat} (cx : Fx p s m args meth c A D cl tys cc nL own ret) (hw : Wd D cl A s H locs (y0 ++ w0)) (hr : RunsXI p l e R s m args below meth c H locs cells slots pc ls st0 rest D cl w w0 post px mc ms)
    (kx : ∀ (E : String) (ce : Cell) (q : Addr) (u : S) (H1 : Heap) (locs1 : List Loc), px E u → Wd D cl A s H1 locs1 (y0 ++ w u) → H1[q]? = some ce → ce.vm = .none → s.vm.findClass E = some ce.cls → vx_W p l e R s m args below meth c H1 locs1 (cells + mc) (slots + ms) Q (F0 m pc ls rest) q)
    (kk : ∀ (r : Int32) (u : S) (H1 : Heap) (locs1 : List Loc), post r u → Wd D cl A s H1 locs1 (y0 ++ w u) → W p l e R s m args below meth c H1 locs1 (cells + mc) (slots + ms) Q (F0 m (pc + 3) ls (.int r :: rest))) : W p l e R s m args below meth c H locs cells slots Q (F0 m pc ls st0) := by
  obtain ⟨a, hr⟩ := hr
  exact vx_calli hr hw.2.2 (fun q _ h => hw.r.free cx q h) (hw.r.free cx) (fun q _ h => hw.r.free cx q h) (fun E ce q u t H1 locs1 ht _ _ hB _ hk hS h1 h2 h3 => kx E ce q u H1 locs1 hB.1 (hw.frame cx ht hB.2.1 hB.2.2 hk hS) h1 h2 h3) (fun r u t H1 locs1 ht _ hp hB _ hk hS => kk r u H1 locs1 hp (hw.frame cx ht hB.1 hB.2 hk hS))
theorem Wd.sw {a b d : va_W} (hw : Wd D cl A s H locs ((a ++ b) ++ d)) : Wd D cl A s H locs ((a ++ d) ++ b) := ⟨hw.1.swap, hw.2.1.swap, hw.2.2⟩
end Frame45
