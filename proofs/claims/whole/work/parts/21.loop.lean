section Loop21
variable {p : Program} {l : Launch} {e : Env} {R : Room} {s : State} {m : MethodId} {args : Array Value} {below : List Frame} {meth : Method} {c : Code} {Q : State → Prop} {head : Nat}
/-- a loop that counts up to n; the room of its rounds grows by cs, ss -/
theorem loopN (n : Nat) (cs ss : Nat → Nat) (I : Nat → Heap → List Loc → Array Slot → Prop) {H : Heap} {locs : List Loc} {ls : Array Slot} (h0 : I 0 H locs ls)
    (hx : ∀ H locs ls, I n H locs ls → W p l e R s m args below meth c H locs (cs n) (ss n) Q (F0 m head ls []))
    (hs : ∀ j, j < n → ∀ H locs ls, I j H locs ls → (∀ H locs ls, I (j + 1) H locs ls → W p l e R s m args below meth c H locs (cs (j + 1)) (ss (j + 1)) Q (F0 m head ls [])) → W p l e R s m args below meth c H locs (cs j) (ss j) Q (F0 m head ls [])) :
    W p l e R s m args below meth c H locs (cs 0) (ss 0) Q (F0 m head ls []) := by
  have key : ∀ d j, j + d = n → ∀ H locs ls, I j H locs ls → W p l e R s m args below meth c H locs (cs j) (ss j) Q (F0 m head ls []) := by
    intro d
    induction d with
    | zero => intro j hj H locs ls h; obtain rfl : j = n := by omega
              exact hx H locs ls h
    | succ d ih => intro j hj H locs ls h
                   exact hs j (by omega) H locs ls h (fun H locs ls h => ih (j + 1) (by omega) H locs ls h)
  exact key n 0 (by omega) H locs ls h0
end Loop21
section Wide21
variable {p : Program} {l : Launch} {e : Env} {R : Room} {s : State} {m : MethodId} {args : Array Value} {below : List Frame} {meth : Method} {c : Code} {H : Heap} {locs : List Loc} {cells slots : Nat}
variable {D : va_G} {cl : List vw_C} {w0 : va_W} {pc : Nat} {ls : Array Slot} {rest st0 : List Value} {S : Type} {w : S → va_W} {mc ms mc' ms' : Nat}
theorem RunsI.wide {post post' : Int32 → S → Prop} {px : String → S → Prop} (h : RunsI p l e R s m args below meth c H locs cells slots pc ls st0 rest D cl w w0 post mc ms) (hp : ∀ r u, post r u → post' r u) (h1 : mc ≤ mc') (h2 : ms ≤ ms') : RunsXI p l e R s m args below meth c H locs cells slots pc ls st0 rest D cl w w0 post' px mc' ms' := by
  obtain ⟨a, h⟩ := h
  refine ⟨a, fun T hT X => ?_⟩
  obtain ⟨v, st₀, t, T', L, h0, X', hL, e1, e2, ⟨⟨r, u, hv, hq, hb⟩, hF⟩, st⟩ := h T hT X
  exact Or.inl ⟨v, st₀, t, T', L, h0, stand_widen X' (by omega) (by omega), hL, e1, e2, ⟨⟨r, u, hv, hp r u hq, hb⟩, hF⟩, st⟩
theorem RunsI.wideI {post post' : Int32 → S → Prop} (h : RunsI p l e R s m args below meth c H locs cells slots pc ls st0 rest D cl w w0 post mc ms) (hp : ∀ r u, post r u → post' r u) (h1 : mc ≤ mc') (h2 : ms ≤ ms') : RunsI p l e R s m args below meth c H locs cells slots pc ls st0 rest D cl w w0 post' mc' ms' := by
  obtain ⟨a, h⟩ := h
  refine ⟨a, fun T hT X => ?_⟩
  obtain ⟨v, st₀, t, T', L, h0, X', hL, e1, e2, ⟨⟨r, u, hv, hq, hb⟩, hF⟩, st⟩ := h T hT X
  exact ⟨v, st₀, t, T', L, h0, stand_widen X' (by omega) (by omega), hL, e1, e2, ⟨⟨r, u, hv, hp r u hq, hb⟩, hF⟩, st⟩
theorem RunsV.wideV {post post' : S → Prop} (h : RunsV p l e R s m args below meth c H locs cells slots pc ls st0 rest D cl w w0 post mc ms) (hp : ∀ u, post u → post' u) (h1 : mc ≤ mc') (h2 : ms ≤ ms') : RunsV p l e R s m args below meth c H locs cells slots pc ls st0 rest D cl w w0 post' mc' ms' := by
  obtain ⟨a, h⟩ := h
  refine ⟨a, fun T hT X => ?_⟩
  obtain ⟨v, st₀, t, T', L, h0, X', hL, e1, e2, ⟨⟨u, hv, hq, hb⟩, hF⟩, st⟩ := h T hT X
  exact ⟨v, st₀, t, T', L, h0, stand_widen X' (by omega) (by omega), hL, e1, e2, ⟨⟨u, hv, hp u hq, hb⟩, hF⟩, st⟩
theorem RunsXI.wide {post post' : Int32 → S → Prop} {px px' : String → S → Prop} (h : RunsXI p l e R s m args below meth c H locs cells slots pc ls st0 rest D cl w w0 post px mc ms) (hp : ∀ r u, post r u → post' r u) (hpx : ∀ E u, px E u → px' E u) (h1 : mc ≤ mc') (h2 : ms ≤ ms') : RunsXI p l e R s m args below meth c H locs cells slots pc ls st0 rest D cl w w0 post' px' mc' ms' := by
  obtain ⟨a, h⟩ := h
  refine ⟨a, fun T hT X => ?_⟩
  rcases h T hT X with ⟨v, st₀, t, T', L, h0, X', hL, e1, e2, ⟨⟨r, u, hv, hq, hb⟩, hF⟩, st⟩ | ⟨q, st₀, t, T', L, E, ce, h0, X', hL, e1, e2, ⟨u, hq, ⟨hb0, hb⟩, hF⟩, hce, hcv, hcl, st⟩
  · exact Or.inl ⟨v, st₀, t, T', L, h0, stand_widen X' (by omega) (by omega), hL, e1, e2, ⟨⟨r, u, hv, hp r u hq, hb⟩, hF⟩, st⟩
  · exact Or.inr ⟨q, st₀, t, T', L, E, ce, h0, stand_widen X' (by omega) (by omega), hL, e1, e2, ⟨u, hq, ⟨hpx E u hb0, hb⟩, hF⟩, hce, hcv, hcl, st⟩
theorem RunsXV.wide {post post' : S → Prop} {px px' : String → S → Prop} (h : RunsXV p l e R s m args below meth c H locs cells slots pc ls st0 rest D cl w w0 post px mc ms) (hp : ∀ u, post u → post' u) (hpx : ∀ E u, px E u → px' E u) (h1 : mc ≤ mc') (h2 : ms ≤ ms') : RunsXV p l e R s m args below meth c H locs cells slots pc ls st0 rest D cl w w0 post' px' mc' ms' := by
  obtain ⟨a, h⟩ := h
  refine ⟨a, fun T hT X => ?_⟩
  rcases h T hT X with ⟨v, st₀, t, T', L, h0, X', hL, e1, e2, ⟨⟨u, hv, hq, hb⟩, hF⟩, st⟩ | ⟨q, st₀, t, T', L, E, ce, h0, X', hL, e1, e2, ⟨u, hq, ⟨hb0, hb⟩, hF⟩, hce, hcv, hcl, st⟩
  · exact Or.inl ⟨v, st₀, t, T', L, h0, stand_widen X' (by omega) (by omega), hL, e1, e2, ⟨⟨u, hv, hp u hq, hb⟩, hF⟩, st⟩
  · exact Or.inr ⟨q, st₀, t, T', L, E, ce, h0, stand_widen X' (by omega) (by omega), hL, e1, e2, ⟨u, hq, ⟨hpx E u hb0, hb⟩, hF⟩, hce, hcv, hcl, st⟩
end Wide21
/-- how often a loaf lies in the first j places of shelf k -/
def tO (σ : St) (k : Nat) (lf : Int32) : Nat → Int32
  | 0 => 0
  | j + 1 => if (if hasP (s_z σ k) (nI j) then s_r σ k j else -1) = lf then tO σ k lf j + 1 else tO σ k lf j
def clr (k : Nat) (σ : St) : Nat → St
  | 0 => σ
  | j + 1 => sR k j (-1) (clr k σ j)
theorem row_clamp {j : Nat} (h : j < 8) : (nI j).toNatClampNeg = j := nI_clamp (by omega)
/-- the laying: why it fails, the state -/
def layE (z pl : Int32) (E : String) : Prop := (z = -1 ∧ E = "java/lang/NullPointerException") ∨ (¬ z = -1 ∧ ¬ hasP z pl ∧ E = "java/lang/ArrayIndexOutOfBoundsException")
