/-! new arrays in a world whose classes of arrays are known -/
section New48
variable {p : Program} {l : Launch} {e : Env} {R : Room} {s : State} {m : MethodId} {args : Array Value} {below : List Frame} {meth : Method} {c : Code} {H : Heap} {locs : List Loc} {cells slots : Nat} {Q : State → Prop}
variable {A : Nat → Prop} {D : va_G} {cl : List vw_C} {tys : List (ClassId × FieldType)} {cc : ByteArray} {nL : Nat} {own : String} {ret : Option FieldType} {w0 y0 : va_W}
variable {pc : Nat} {ls : Array Slot} {rest st0 : List Value}
theorem nw_i {q3 : Nat → ClassId} {N : Nat} {n : Int32} (cx : Fx p s m args meth c A D cl (tyl q3) cc nL own ret) (hw : Wd D cl A s H locs w0) (hn : ¬ n < 0) (hN : n.toNatClampNeg = N) (hb : N * componentBytes .int ≤ 536870912) (hcells : cells + 1 ≤ R.cells) (hslots : slots + N ≤ R.slots) (hdg : decode cc pc = .ok (.newarray .int, 2))
    (kk : ∀ (q : Nat) (H1 : Heap), Wd D cl A s H1 locs (w0 ++ [(q, arI (q3 0) N (fun _ => 0))]) → W p l e R s m args below meth c H1 locs (cells + 1) (slots + N) Q (F0 m (pc + 2) ls (.ref q :: rest))) : W p l e R s m args below meth c H locs cells slots Q (F0 m pc ls (.int n :: rest)) := by
  refine va_newa (atype := .int) (ty := .int) (a0 := (N, .inl (fun _ => 0))) cx.x cx.b (cx.ts _ tw_67) rfl cx.k hw.1 hw.2.1 hw.2.2 cx.a (fun cA => by rw [vp_cell_i]; rfl) hn hN hb hcells hslots hdg (fun q cA H1 k1 k2 k3 k4 => ?_)
  have e1 : va_RA s cA .int := (k1.2 4 (cA, .int) rfl).2
  have e2 : va_RA s (q3 0) .int := (cx.k.2 0 (q3 0, .int) rfl).2
  have e3 : cA = q3 0 := Option.some.inj (Eq.trans (Eq.symm e1) e2)
  subst e3
  exact kk q H1 ⟨k2, k3, k4⟩
theorem nw_l {q3 : Nat → ClassId} {N : Nat} {n : Int32} (cx : Fx p s m args meth c A D cl (tyl q3) cc nL own ret) (hw : Wd D cl A s H locs w0) (hn : ¬ n < 0) (hN : n.toNatClampNeg = N) (hb : N * componentBytes .long ≤ 536870912) (hcells : cells + 1 ≤ R.cells) (hslots : slots + N ≤ R.slots) (hdg : decode cc pc = .ok (.newarray .long, 2))
    (kk : ∀ (q : Nat) (H1 : Heap), Wd D cl A s H1 locs (w0 ++ [(q, .inl (q3 3, N, .inr (.inl (fun _ => 0))))]) → W p l e R s m args below meth c H1 locs (cells + 1) (slots + N) Q (F0 m (pc + 2) ls (.ref q :: rest))) : W p l e R s m args below meth c H locs cells slots Q (F0 m pc ls (.int n :: rest)) := by
  refine va_newa (atype := .long) (ty := .long) (a0 := (N, .inr (.inl (fun _ => 0)))) cx.x cx.b (cx.ts _ tw_952) rfl cx.k hw.1 hw.2.1 hw.2.2 cx.a (fun cA => by rw [vp_cell_l]; rfl) hn hN hb hcells hslots hdg (fun q cA H1 k1 k2 k3 k4 => ?_)
  have e1 : va_RA s cA .long := (k1.2 4 (cA, .long) rfl).2
  have e2 : va_RA s (q3 3) .long := (cx.k.2 3 (q3 3, .long) rfl).2
  have e3 : cA = q3 3 := Option.some.inj (Eq.trans (Eq.symm e1) e2)
  subst e3
  exact kk q H1 ⟨k2, k3, k4⟩
theorem nw_q {q3 : Nat → ClassId} {N j idx : Nat} {C : String} {n : Int32} (cx : Fx p s m args meth c A D cl (tyl q3) cc nL own ret) (hw : Wd D cl A s H locs w0) (hj : (tyl q3)[j]? = some (q3 j, .object C)) (hl : Cond.classLink own idx C ∈ tg) (ho : va_AO C s) (hn : ¬ n < 0) (hN : n.toNatClampNeg = N) (hb : N * 4 ≤ 536870912) (hcells : cells + 1 ≤ R.cells) (hslots : slots + N ≤ R.slots) (hdg : decode cc pc = .ok (.anewarray idx, 3))
    (kk : ∀ (q : Nat) (H1 : Heap), Wd D cl A s H1 locs (w0 ++ [(q, arR (q3 j) N (fun _ => none))]) → W p l e R s m args below meth c H1 locs (cells + 1) (slots + N) Q (F0 m (pc + 3) ls (.ref q :: rest))) : W p l e R s m args below meth c H locs cells slots Q (F0 m pc ls (.int n :: rest)) := by
  refine va_newq cx.x cx.b cx.ow (cx.ts _ hl) ho cx.k hw.1 hw.2.1 hw.2.2 cx.a hn hN hb hcells hslots hdg (fun q cA H1 k1 k2 k3 k4 => ?_)
  obtain ⟨-, -, -, -, -, e1⟩ : va_RA s cA (.object C) := (k1.2 4 (cA, .object C) rfl).2
  obtain ⟨-, -, -, -, -, e2⟩ : va_RA s (q3 j) (.object C) := (cx.k.2 j _ hj).2
  have e3 : cA = q3 j := Option.some.inj (e1.symm.trans e2)
  subst e3
  exact kk q H1 ⟨k2, k3, k4⟩
theorem cgoF_v {S : Type} {w : S → va_W} {post : S → Prop} {mc ms : Nat} (cx : Fx p s m args meth c A D cl tys cc nL own ret) (hw : Wd D cl A s H locs (y0 ++ w0)) (hr : RunsV p l e R s m args below meth c H locs cells slots pc ls st0 rest D cl w w0 post mc ms)
    (kk : ∀ (u : S) (H1 : Heap) (locs1 : List Loc), post u → Wd D cl A s H1 locs1 (y0 ++ w u) → W p l e R s m args below meth c H1 locs1 (cells + mc) (slots + ms) Q (F0 m (pc + 3) ls rest)) : W p l e R s m args below meth c H locs cells slots Q (F0 m pc ls st0) := by
  obtain ⟨a, hr⟩ := hr
  exact va_callv hr hw.2.2 (fun q _ h => hw.r.free cx q h) (hw.r.free cx) (fun u t H1 locs1 ht _ hp hB _ hk hS => kk u H1 locs1 hp (hw.frame cx ht hB.1 hB.2 hk hS))
theorem Wd.perm {w1 : va_W} (hw : Wd D cl A s H locs w0) (is : List Nat) (hn : va_nd is = true) (hs : is.map (fun i => w0[i]?) = w1.map some) : Wd D cl A s H locs w1 := by
  refine ⟨fun k q hk => ?_, hw.2.1.sub is hn hs, hw.2.2⟩
  have h1 : (is.map (fun i => w0[i]?))[k]? = some (some q) := by rw [hs, List.getElem?_map, hk]; rfl
  rw [List.getElem?_map] at h1
  cases hi : is[k]? with
  | none => rw [hi] at h1; cases h1
  | some i => rw [hi] at h1; exact hw.1 i q (Option.some.inj h1)
end New48
def wBook (Q : Nat → ClassId) (q a : Nat) : va_W := [(q, .inr (0, [.ref a, .int 0, .int 0, .int 0, .int 0, .int 0, .int 0])), (a, arI (Q 0) 100 (fun _ => 0))]
def wShelf (Q : Nat → ClassId) (q a : Nat) : va_W := [(q, .inr (1, [.ref a, .int (-1)])), (a, arI (Q 0) 8 (fun _ => 0))]
/-- the state of a new house -/
def σ0 : St := (0, fun _ => 0, fun _ _ => 0, fun _ => 0, upd (upd (upd (upd (fun _ => 0) 0 (-1)) 1 (-1)) 2 (-1)) 3 (-1), fun _ _ => 0, fun _ => 0, 0, fun _ => 0)
def gL (L : List Nat) (k : Nat) : Nat := L.getD k 0
theorem inv_0 {b : Nat} (h : b < 2 ^ 20) : Inv b σ0 := by
  refine ⟨by decide, fun i hi => absurd hi (Nat.not_lt_zero i), fun k hk => Or.inl ?_, fun i => ⟨0, Nat.zero_le _, rfl⟩, by show 0 + b < 2 ^ 20; omega, fun k hk j hj hz => absurd ?_ hz, fun _ _ _ _ => rfl, fun _ _ => rfl, fun i => ⟨0, Nat.zero_le _, rfl⟩, fun i => ⟨0, Nat.zero_le _, rfl⟩⟩
  · rcases (show k = 0 ∨ k = 1 ∨ k = 2 ∨ k = 3 by omega) with rfl | rfl | rfl | rfl <;> rfl
  · rcases (show k = 0 ∨ k = 1 ∨ k = 2 ∨ k = 3 by omega) with rfl | rfl | rfl | rfl <;> rfl
theorem ov_4 {a b c d : Nat} {G : Nat → Nat} (h0 : G 5 = a) (h1 : G 6 = b) (h2 : G 7 = c) (h3 : G 8 = d) : va_up (va_up (va_up (va_up (fun _ => none) 0 (some a)) 1 (some b)) 2 (some c)) 3 (some d) = (fun k => if k < 4 then some (G (5 + k)) else none) := by
  funext k
  by_cases hk : k < 4
  · rw [if_pos hk]
    rcases (show k = 0 ∨ k = 1 ∨ k = 2 ∨ k = 3 by omega) with rfl | rfl | rfl | rfl
    · rw [show G (5 + 0) = a from h0]; rfl
    · rw [show G (5 + 1) = b from h1]; rfl
    · rw [show G (5 + 2) = c from h2]; rfl
    · rw [show G (5 + 3) = d from h3]; rfl
  · rw [if_neg hk, va_up_ne _ _ (by omega), va_up_ne _ _ (by omega), va_up_ne _ _ (by omega), va_up_ne _ _ (by omega)]
theorem lv_0 : (fun _ => none : Nat → Option Nat) = (fun i => if i < s_n σ0 then some (s_a σ0 i) else none) := by
  funext i
  exact (if_neg (Nat.not_lt_zero i)).symm
