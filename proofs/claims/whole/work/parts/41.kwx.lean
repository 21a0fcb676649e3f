/-! a new loaf of the class -/
def kwX (G : Nat → Nat) (Q : Nat → ClassId) (σ : St) (q ci : Nat) (fs : List Value) : va_W := kw G Q σ ++ [(q, .inr (ci, fs))]
theorem kw_len {G : Nat → Nat} {Q : Nat → ClassId} {σ : St} : (kw G Q σ).length = 13 + s_n σ := by
  show (kFix G Q σ ++ kLv (G 1) σ).length = _
  rw [List.length_append]; simp [kFix, kLv]
theorem kwX_get {G : Nat → Nat} {Q : Nat → ClassId} {σ : St} {q ci : Nat} {fs : List Value} : (kwX G Q σ q ci fs)[13 + s_n σ]? = some (q, .inr (ci, fs)) := by
  unfold kwX
  rw [List.getElem?_append_right (by rw [kw_len]; exact Nat.le_refl _), kw_len, Nat.sub_self]; rfl
theorem kwX_set {G : Nat → Nat} {Q : Nat → ClassId} {σ : St} {q ci : Nat} {fs fs' : List Value} : (kwX G Q σ q ci fs).set (13 + s_n σ) (q, .inr (ci, fs')) = kwX G Q σ q ci fs' := by
  have h := List.set_append (s := kw G Q σ) (t := [(q, .inr (ci, fs))]) (i := 13 + s_n σ) (x := (q, .inr (ci, fs')))
  rw [if_neg (by rw [kw_len]; omega), kw_len, Nat.sub_self] at h
  exact h
def dNew (G : Nat → Nat) (nu kn ma : Int32) : List Value := [.ref (G 1), .int nu, .int kn, .int ma, .int 0, .int 0, .int 0, .int 0]
def dBlank : List Value := [.null, .int 0, .int 0, .int 0, .int 0, .int 0, .int 0, .int 0]
/-- the world behind knead -/
def kwN (G : Nat → Nat) (Q : Nat → ClassId) (σ : St) (kd : Nat) (nu ma : Int32) (q : Nat) : va_W := kwX G Q σ q (4 + kd) (dNew G nu (nI kd) ma)
section New41
variable {p : Program} {l : Launch} {e : Env} {R : Room} {s : State} {m : MethodId} {args : Array Value} {below : List Frame} {meth : Method} {c : Code} {H : Heap} {locs : List Loc} {cells slots : Nat} {Q : State → Prop}
variable {A : Nat → Prop} {D : va_G} {cl : List vw_C} {tys : List (ClassId × FieldType)} {cc : ByteArray} {nL : Nat} {own : String} {ret : Option FieldType} {w0 : va_W}
variable {pc : Nat} {ls : Array Slot} {rest : List Value}
theorem nw_o {C : String} {T : u_T} {N ci idx : Nat} (cx : Fx p s m args meth c A D cl tys cc nL own ret) (hw : Wd D cl A s H locs w0) (hc : cl[ci]? = some (C, T, N)) (hin : ∀ x ∈ u_ws C T N, x ∈ tg) (ty : Nat → FieldType) (hty : ∀ k, k < N → parseFieldDescriptor (T k).2.2.1 = some (ty k)) (h1 : Cond.classLink own idx C ∈ tg) (h2 : Cond.instantiable C N ∈ tg) (h3 : Cond.initialized C ∈ tg) {fs : List Value} (hfs : ∀ j, j < N → defaultValue (ty j) = vp_V fs j) (hcells : cells + 1 ≤ R.cells) (hslots : slots + N ≤ R.slots) (hdg : decode cc pc = .ok (.new idx, 3))
    (kk : ∀ (q : Nat) (H1 : Heap), Wd D cl A s H1 locs (w0 ++ [(q, .inr (ci, fs))]) → W p l e R s m args below meth c H1 locs (cells + 1) (slots + N) Q (F0 m (pc + 3) ls (.ref q :: rest))) : W p l e R s m args below meth c H locs cells slots Q (F0 m pc ls rest) :=
  va_new cx.x cx.b cx.ts hin ty hty cx.ow (cx.ts _ h1) (cx.ts _ h2) (cx.ts _ h3) cx.k hw.1 hw.2.1 hw.2.2 cx.a hc hfs hcells hslots hdg (fun q H1 a1 a2 a3 => kk q H1 ⟨a1, a2, a3⟩)
/-- a reference is put into an array of a class that its own is castable to -/
theorem ast_r {C E : String} {T : u_T} {N ci v : Nat} {vs : List Value} {a : Nat} (cx : Fx p s m args meth c A D cl tys cc nL own ret) (hw : Wd D cl A s H locs w0) (q0 t0 qk : Nat) {cA : ClassId} {n : Nat} {f : Nat → Option Nat} (ha : w0[q0]? = some (a, .inl (cA, n, .inr (.inr (.inr (.inr f)))))) (ht : tys[t0]? = some (cA, .object E)) (hv : w0[qk]? = some (v, .inr (ci, vs))) (hc : cl[ci]? = some (C, T, N)) (hasg : C = E ∨ Cond.castable C E ∈ nw_C) (j : Nat) {i : Int32} (hi : i = nI j) (hj : j < n) (hn : n < 2 ^ 31) (hdg : decode cc pc = .ok (.aastore, 1)) {w1 : va_W} (hset : w0.set q0 (a, .inl (cA, n, .inr (.inr (.inr (.inr (va_up f j (some v))))))) = w1)
    (kk : ∀ (H1 : Heap) (locs1 : List Loc), Wd D cl A s H1 locs1 w1 → W p l e R s m args below meth c H1 locs1 cells slots Q (F0 m (pc + 1) ls rest)) : W p l e R s m args below meth c H locs cells slots Q (F0 m pc ls (.ref v :: .int i :: .ref a :: rest)) := by
  subst hi
  subst hset
  refine va_astqM cx.x cx.b cx.k hw.1 hw.2.1 hw.2.2 q0 t0 ha ht (va_rAny cx.k hw.1 hv hc (fun comp c0 h1 h2 => ?_)) (vp_in_nI hj hn) hdg (fun H1 locs1 h1 h2 h3 => ?_)
  · rcases hasg with rfl | hg
    · cases h1.symm.trans h2
      exact va_asg _ _
    · obtain ⟨c3, c4, hc3, hc4, has⟩ := Cond.castable_spec (cx.ev.2.2.2.2.1 _ hg)
      cases h1.symm.trans hc4
      cases h2.symm.trans hc3
      exact has
  · rw [nI_clamp (Nat.lt_trans hj hn)] at h1 h2
    exact kk H1 locs1 ⟨h1, h2, h3⟩
end New41
theorem kd_cast {k : Nat} (h : k < 8) : kR k = "BakeHouse$Dough" ∨ Cond.castable (kR k) "BakeHouse$Dough" ∈ nw_C := by
  rcases (show k = 0 ∨ k = 1 ∨ k = 2 ∨ k = 3 ∨ k = 4 ∨ k = 5 ∨ k = 6 ∨ k = 7 by omega) with rfl | rfl | rfl | rfl | rfl | rfl | rfl | rfl <;> first | exact Or.inl rfl | exact Or.inr (by decide +kernel)
/-- the loaf in its place: the world of the new state -/
theorem kw_new {G : Nat → Nat} {Q : Nat → ClassId} {σ : St} {kd q : Nat} {ma : Int32} (hF : ∀ f, 4 ≤ f → s_F σ f (s_n σ) = 0) :
    ((kwN G Q σ kd (nI (s_n σ)) ma q).set 4 (G 4, arR (Q 2) 20 (va_up (fun i => if i < s_n σ then some (s_a σ i) else none) (s_n σ) (some q)))).set 0 (G 0, .inr (2, [.ref (G 1), .ref (G 3), .ref (G 4), .int (nI (s_n σ) + 1)])) = kw G Q (sNew kd ma q σ) := by
  have e1 : va_up (fun i => if i < s_n σ then some (s_a σ i) else none) (s_n σ) (some q) = fun i => if i < s_n (sNew kd ma q σ) then some (s_a (sNew kd ma q σ) i) else none := by
    funext i
    show va_up (fun i => if i < s_n σ then some (s_a σ i) else none) (s_n σ) (some q) i = if i < s_n σ + 1 then some (va_up (s_a σ) (s_n σ) q i) else none
    by_cases e : i = s_n σ
    · subst e; rw [va_up_self, va_up_self, if_pos (by omega)]
    · rw [va_up_ne _ _ e, va_up_ne _ _ e]
      by_cases e2 : i < s_n σ
      · rw [if_pos e2, if_pos (by omega)]
      · rw [if_neg e2, if_neg (by omega)]
  have e2 : kLv (G 1) σ ++ [(q, .inr (4 + kd, dNew G (nI (s_n σ)) (nI kd) ma))] = kLv (G 1) (sNew kd ma q σ) := by
    unfold kLv
    show _ = (List.range (s_n σ + 1)).map _
    rw [List.range_succ, List.map_append]
    congr 1
    · apply List.map_congr_left
      intro i hi
      have hi := List.mem_range.mp hi
      have n1 : ¬ i = s_n σ := by omega
      show (s_a σ i, kCell (G 1) σ i) = (va_up (s_a σ) (s_n σ) q i, kCell (G 1) (sNew kd ma q σ) i)
      rw [va_up_ne _ _ n1]
      have k1 : s_k (sNew kd ma q σ) i = s_k σ i := va_up_ne _ _ n1
      have k2 : s_F (sNew kd ma q σ) 3 i = s_F σ 3 i := by
        show upd (s_F σ 3) (s_n σ) ma i = _
        simp [upd, n1]
      unfold kCell
      rw [k1, k2]; rfl
    · show [(q, _)] = [(va_up (s_a σ) (s_n σ) q (s_n σ), kCell (G 1) (sNew kd ma q σ) (s_n σ))]
      rw [va_up_self]
      have k1 : s_k (sNew kd ma q σ) (s_n σ) = kd := va_up_self _ _ _
      have k2 : s_F (sNew kd ma q σ) 3 (s_n σ) = ma := by
        show upd (s_F σ 3) (s_n σ) ma (s_n σ) = _
        simp [upd]
      have k4 : s_F (sNew kd ma q σ) 4 (s_n σ) = 0 := hF 4 (by decide)
      have k5 : s_F (sNew kd ma q σ) 5 (s_n σ) = 0 := hF 5 (by decide)
      have k6 : s_F (sNew kd ma q σ) 6 (s_n σ) = 0 := hF 6 (by decide)
      have k7 : s_F (sNew kd ma q σ) 7 (s_n σ) = 0 := hF 7 (by decide)
      unfold kCell
      rw [k1, k2, k4, k5, k6, k7]; rfl
  rw [e1, nI_1]
  show _ = kFix G Q (sNew kd ma q σ) ++ kLv (G 1) (sNew kd ma q σ)
  rw [← e2]
  unfold kwN kwX kw
  rw [List.append_assoc]
  rfl
