/-! the law's start: what stands fast there -/
theorem st_txt {own tx : String} {k : Nat} {c : ClassId} {args : Array Value} {s : State} (h1 : (Cond.stringRef own k tx).before args s = true) (h2 : s.vm.findClass own = some c) : ∃ a, vk_R own k tx a s := by
  obtain ⟨_, _, _, a, _, _, _, _, _, hev⟩ := Cond.stringRef_spec h2 h1
  exact ⟨a, vk_R.of h1 hev⟩
set_option maxRecDepth 100000 in
theorem cls_in : ∀ q ∈ cls, (∀ x ∈ u_ws q.1 q.2.1 q.2.2, x ∈ tg) ∧ Cond.instantiable q.1 q.2.2 ∈ tg := by decide +kernel
theorem st_cls {args : Array Value} {s : State} (hts : ∀ w ∈ tg, w.before args s = true) : ∃ D : va_G, ∀ (c : Nat) (q : vw_C), cls[c]? = some q → u_Kn s q.1 q.2.1 q.2.2 (D.1 c) (D.2 c) := by
  have h : ∀ c : Nat, ∃ d : ClassId × (Nat → Nat), ∀ q : vw_C, cls[c]? = some q → u_Kn s q.1 q.2.1 q.2.2 d.1 d.2 := by
    intro c
    cases hq : cls[c]? with
    | none => exact ⟨(0, fun _ => 0), fun q h => by cases h⟩
    | some q =>
      obtain ⟨h1, h2⟩ := cls_in q (List.mem_of_getElem? hq)
      obtain ⟨a, b, g⟩ := u_known hts h1 (hts _ h2)
      exact ⟨(a, b), fun q' h => by cases h; exact g⟩
  obtain ⟨d, hd⟩ := Classical.skolem.mp h
  exact ⟨(fun c => (d c).1, fun c => (d c).2), fun c q hq => hd c q hq⟩
theorem st_I {args : Array Value} {s : State} {t : FieldType} (ht : ∀ c, va_RA s c t = (s.vm.findClass ("[" ++ t.toString) = some c)) (h : (Cond.arrayClass t).before args s = true) : ∃ c, ArrOfT s c t ∧ va_RA s c t := by
  obtain ⟨c, k, comp, h1, h2, h3⟩ := Cond.arrayClass_spec h
  exact ⟨c, fun n z => ⟨fun k h => (by cases h), k, h2, comp, h3⟩, by rw [ht]; exact h1⟩
theorem st_O {args : Array Value} {s : State} {n : String} (h : (Cond.arrayOver (.object n)).before args s = true) : ∃ c, ArrOfT s c (.object n) ∧ va_RA s c (.object n) := by
  obtain ⟨comp, c, k, h1, h2, h3, h4, h5⟩ := Cond.arrayOver_spec h
  exact ⟨c, fun N z => ⟨fun k h => (by cases h), k, h3, comp, h4⟩, k, comp, h3, h4, h1, h5⟩
theorem st_ty {args : Array Value} {s : State} (h0 : (Cond.arrayClass .int).before args s = true) (h1 : (Cond.arrayOver (.object "BakeHouse$Shelf")).before args s = true) (h2 : (Cond.arrayOver (.object "BakeHouse$Dough")).before args s = true) (h3 : (Cond.arrayClass .long).before args s = true) : ∃ Q : Nat → ClassId, ∀ (k : Nat) (q : ClassId × FieldType), (tyl Q)[k]? = some q → ArrOfT s q.1 q.2 ∧ va_RA s q.1 q.2 := by
  obtain ⟨c0, g0⟩ := st_I (fun _ => rfl) h0
  obtain ⟨c1, g1⟩ := st_O h1
  obtain ⟨c2, g2⟩ := st_O h2
  obtain ⟨c3, g3⟩ := st_I (fun _ => rfl) h3
  refine ⟨fun k => match k with | 0 => c0 | 1 => c1 | 2 => c2 | _ => c3, fun k q hk => ?_⟩
  have hl : k < 4 := (List.getElem?_eq_some_iff.mp hk).1
  rcases (show k = 0 ∨ k = 1 ∨ k = 2 ∨ k = 3 by omega) with rfl | rfl | rfl | rfl <;> cases hk
  · exact g0
  · exact g1
  · exact g2
  · exact g3
set_option maxRecDepth 100000 in
theorem nw_Lin : ∀ w ∈ nw_L, w ∈ lw_tbl := by decide +kernel
set_option maxRecDepth 100000 in
theorem nw_Cin : ∀ w ∈ nw_C, w ∈ lw_tbl := by decide +kernel
set_option maxHeartbeats 4000000 in
set_option maxRecDepth 100000 in
theorem st_en {s : State} {b : Nat} {D : va_G} (hK : ∀ (c : Nat) (q : vw_C), cls[c]? = some q → u_Kn s q.1 q.2.1 q.2.2 (D.1 c) (D.2 c)) (hts : ∀ w ∈ lw_tbl, w.before #[Value.ref b] s = true) (hgv : (Jvm.Cond.and given_1 narrow_1).before #[Value.ref b] s = true) : en (fun q => s.heap.size ≤ q) s s.heap := by
  have hs := flat_of_before _ hgv
  refine ⟨vx_Zqof (hts _ (by decide +kernel)) (hts _ (by decide +kernel)) (hs _ (by decide +kernel)) (fun a h => Nat.not_le.mpr h), vx_Zqof (hts _ (by decide +kernel)) (hts _ (by decide +kernel)) (hs _ (by decide +kernel)) (fun a h => Nat.not_le.mpr h), ⟨st_txt (hts _ (by decide +kernel)) (hK 9 _ rfl).2.1, st_txt (hts _ (by decide +kernel)) (hK 2 _ rfl).2.1, st_txt (hts _ (by decide +kernel)) (hK 4 _ rfl).2.1, st_txt (hts _ (by decide +kernel)) (hK 4 _ rfl).2.1, st_txt (hts _ (by decide +kernel)) (hK 10 _ rfl).2.1⟩, fun w hw => va_Nw.of (nw_Lot w hw) (hts w (nw_Lin w hw)), fun w hw => va_Nw.of (nw_Cot w hw) (hts w (nw_Cin w hw)), va_AO.of (hts _ (by decide +kernel)), va_AO.of (hts _ (by decide +kernel)), va_Nc.of (hs _ (by decide +kernel))⟩
