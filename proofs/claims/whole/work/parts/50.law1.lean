/-! rows for the law's walk -/
def oE (Q : Nat → ClassId) (ou : Nat) (fo : Nat → Int64) : va_W := [(ou, .inl (Q 3, 1, .inr (.inl fo)))]
section Law50
variable {p : Program} {l : Launch} {e : Env} {R : Room} {s : State} {m : MethodId} {args : Array Value} {below : List Frame} {meth : Method} {c : Code} {H : Heap} {locs : List Loc} {cells slots : Nat} {Q : State → Prop}
variable {A : Nat → Prop} {D : va_G} {cl : List vw_C} {tys : List (ClassId × FieldType)} {cc : ByteArray} {nL : Nat} {own : String} {ret : Option FieldType} {w0 : va_W}
variable {pc : Nat} {ls : Array Slot} {rest : List Value}
theorem Wd.sw2 {b d : va_W} (hw : Wd D cl A s H locs (b ++ d)) : Wd D cl A s H locs (d ++ b) := Wd.sw (a := []) hw
theorem Wd.asc {a b d : va_W} (hw : Wd D cl A s H locs (a ++ (b ++ d))) : Wd D cl A s H locs ((a ++ b) ++ d) := by rw [List.append_assoc]; exact hw
theorem Wd.as2 {a b d : va_W} (hw : Wd D cl A s H locs ((a ++ b) ++ d)) : Wd D cl A s H locs (a ++ (b ++ d)) := by rw [List.append_assoc] at hw; exact hw
/-- an element of the script -/
theorem sld {b L : Nat} {xs : Nat → Int32} (cx : Fx p s m args meth c A D cl tys cc nL own ret) (hw : Wd D cl A s H locs w0) (hX : va_X b L xs s s.heap ∧ b < s.heap.size ∧ ¬ A b ∧ L ≤ 2048) (k : Nat) {i : Int32} (hi : i = nI k) (hk : k < L) (hdg : decode cc pc = .ok (.iaload, 1))
    (kk : W p l e R s m args below meth c H locs cells slots Q (F0 m (pc + 1) ls (.int (xs k) :: rest))) : W p l e R s m args below meth c H locs cells slots Q (F0 m pc ls (.int i :: .ref b :: rest)) := by
  subst hi
  refine va_sld cx.x cx.b hX.1 hX.2.1 hX.2.2.1 hw.2.2 (vp_in_nI hk (by have := hX.2.2.2; omega)) hdg ?_
  rw [nI_clamp (by have := hX.2.2.2; omega)]
  exact kk
theorem slen {b L : Nat} {xs : Nat → Int32} (cx : Fx p s m args meth c A D cl tys cc nL own ret) (hw : Wd D cl A s H locs w0) (hX : va_X b L xs s s.heap ∧ b < s.heap.size ∧ ¬ A b ∧ L ≤ 2048) (hdg : decode cc pc = .ok (.arraylength, 1))
    (kk : W p l e R s m args below meth c H locs cells slots Q (F0 m (pc + 1) ls (.int (nI L) :: rest))) : W p l e R s m args below meth c H locs cells slots Q (F0 m pc ls (.ref b :: rest)) :=
  va_slen cx.x cx.b hX.1 hX.2.1 hX.2.2.1 hw.2.2 hdg kk
theorem lc_eq {x : Int64} (cx : Fx p s m args meth c A D cl tys cc nL own ret) (hdg : decode cc pc = .ok (.lcmp, 1))
    (kk : W p l e R s m args below meth c H locs cells slots Q (F0 m (pc + 1) ls (.int 0 :: rest))) : W p l e R s m args below meth c H locs cells slots Q (F0 m pc ls (.long x :: .long x :: rest)) := by
  have hexec := cx.x
  have hb := cx.b
  intro T hT X
  obtain ⟨t, a, b⟩ := kk T hT X
  refine ⟨t, ?_, b⟩
  jvm_step X.here [X.here.top, hexec, hb, hdg]
  exact a
end Law50
theorem nI_sub4 {L k : Nat} (hL : L ≤ 2048) (hk : k ≤ 2048) : nI L - 4 < nI k ↔ L < k + 4 := by
  rw [Int32.lt_iff_toInt_lt, Int32.toInt_sub, nI_toInt (by omega), nI_toInt (by omega)]
  rw [show (4 : Int32).toInt = 4 from rfl, Int.bmod_eq_of_le (by omega) (by omega)]
  omega
