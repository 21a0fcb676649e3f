/-! THE CLAIM OUT OF ONE WALK OF THE LAW'S BODY. Your part is whole_start (and what it stands on); all else here is the same for every law, but numbers. -/
def R_law : String := "BakeHouseLaw"
def lw_P (b : Addr) (xs : List Int32) (args : Array Value) (s : State) : Prop := args = #[.ref b] ∧ s.IntsAt b xs ∧ xs.length ≤ 2048 ∧ (Jvm.Cond.and given_1 narrow_1).before args s = true
def lw_Q (_ : Array Value) (s : State) (o : Outcome) (t : State) : Prop := o = .returned (some (.int 1)) ∧ Framed s o t [] 603072 7215210
def lw_Z (below : List Frame) (a : Array Value) (s : State) : State → Prop := fun t => ∃ o, t.status = .running ∧ Ended t below o ∧ lw_Q a s o t
/-- the law's own end, with 1 on the stack, nothing written that was there before, its room as the claim has it -/
theorem lw_ret {p : Program} {l : Launch} {e : Env} {s : State} {m : MethodId} {below : List Frame} {meth : Method} {c : Code} {b : Nat} (hx : p.tables.exec = Jvm.exec) (hb : c.code = code) (hr : meth.sig.returnType = ret) (hlocks : meth.locks = false) {pc : Nat} {H : Heap} {ls : Array Slot} (hdg : decode code pc = .ok (.ireturn, 1)) : W p l e room_1 s m #[Value.ref b] below meth c H [] 603072 7215210 (lw_Z below #[Value.ref b] s) (F0 m pc ls [.int 1]) := by
  intro T hT X
  obtain ⟨fs, hret, hrun, hended, hW, hframe⟩ := X.leave (v := some (.int 1)) (hlocks := hlocks) (fun h => by rw [hr] at h; cases h)
  have hmeth' : T.vm.method? m = some meth := X.method'
  refine ⟨T.setFrames fs, ?_, .returned (some (.int 1)), hrun, hended, rfl, ⟨_, rfl⟩, hW, hframe⟩
  jvm_step X.here [X.here.top, hx, hb, hdg, hmeth', hr, ret, narrow_b1]
  (try refine ⟨rfl, ?_⟩); (try refine ⟨rfl, ?_⟩)
  first | (intro acts; rw [hret _ acts rfl rfl rfl]) | rw [hret _ _ rfl rfl rfl]
  exact Steps.refl _
/-- what holds at the law's entry: the machine, the code, the tables' words (any of lw_tbl by 'hts w (by decide +kernel)'), the script of L ints xs at the cell b, what the Statement gives of the start (any of its parts by flat_of_before) -/
def lw_At (p : Program) (s : State) (m : MethodId) (meth : Method) (c : Code) (b L : Nat) (xs : Nat → Int32) : Prop :=
  p.tables.exec = Jvm.exec ∧ c.code = code ∧ meth.sig.returnType = ret ∧ c.maxLocals = 7 ∧ s.vm.findClass R_law = some m.cls ∧ (∀ w ∈ lw_tbl, w.before #[Value.ref b] s = true) ∧ va_X b L xs s s.heap ∧ b < s.heap.size ∧ meth.locks = false ∧ (Jvm.Cond.and given_1 narrow_1).before #[Value.ref b] s = true
set_option maxHeartbeats 4000000 in
set_option maxRecDepth 100000 in
theorem lw_go {p : Program} {e : Env} {s : State} {m : MethodId} {below : List Frame} {meth : Method} {c : Code} (l : Launch) (hl0 : l.stackTraces = false) (D : va_G) (Q : Nat → ClassId) {b L : Nat} {xs : Nat → Int32} (cx : Fx p s m #[Value.ref b] meth c (fun q => s.heap.size ≤ q) D cls (tyl Q) cL_law 7 "BakeHouseLaw" (some .boolean)) (hX : va_X b L xs s s.heap ∧ b < s.heap.size ∧ ¬ (fun q => s.heap.size ≤ q) b ∧ L ≤ 2048) {ls : Array Slot} (hl : lv_has ls 7 [(0, .ref b)]) (hw : Wd D cls (fun q => s.heap.size ≤ q) s s.heap [] []) : W p l e room_1 s m #[Value.ref b] below meth c s.heap [] 0 0 (lw_Z below #[Value.ref b] s) (F0 m 0 ls []) := by
  refine nw_o (ci := 2) (fs := [.null, .null, .null, .int 0]) cx hw rfl inX10 tyX10 tyX10_ok tw_24 tw_25 tw_1 (by decide +kernel) (Nat.le_of_ble_eq_true rfl) (Nat.le_of_ble_eq_true rfl) dL_law_0 (fun q H hw => ?_)
  have hw : Wd D cls _ s H _ [(q, .inr (2, [.null, .null, .null, .int 0]))] := hw
  refine lv_dup cx.x cx.b dL_law_3 rfl ?_
  refine cgo_v cx hw (rI_v (n := 0) (As := []) (rest := [.ref q]) cx hw (c_X10_init l D Q q) tw_26 tw_27 tw_1 tw_28 rfl ⟨by decide +kernel, rfl, hl.1, Nat.le_of_ble_eq_true rfl, ⟨Nat.le_of_ble_eq_true rfl, Nat.le_of_ble_eq_true rfl⟩, ⟨Nat.le_of_ble_eq_true rfl, Nat.le_of_ble_eq_true rfl⟩, rfl, rfl⟩ rfl dL_law_4) (fun G H locs hp hw1 => ?_)
  subst hp
  have hw := hw1
  refine lv_astore_n (lv' := [(1, .ref (G 0)), (0, .ref b)]) cx.x cx.b dL_law_7 rfl hl (by decide) rfl (fun ls hl => ?_)
  refine nw_o (ci := 3) (fs := [.int 0, .int 0, .null, .null, .null, .null, .null, .null, .null, .null, .null, .int 0, .int 0, .int 0, .int 0, .int 0, .int 0]) cx hw rfl inX11 tyX11 tyX11_ok tw_751 tw_752 tw_4 (by decide +kernel) (Nat.le_of_ble_eq_true rfl) (Nat.le_of_ble_eq_true rfl) dL_law_8 (fun q H hw => ?_)
  refine lv_dup cx.x cx.b dL_law_11 rfl ?_
  refine cgoF_v cx hw (rI_v (n := 0) (As := []) (rest := [.ref q]) cx hw.r (c_X11_init l D Q q) tw_753 tw_754 tw_4 tw_755 rfl ⟨by decide +kernel, rfl, hl.1, Nat.le_of_ble_eq_true rfl, ⟨Nat.le_of_ble_eq_true rfl, Nat.le_of_ble_eq_true rfl⟩, ⟨Nat.le_of_ble_eq_true rfl, Nat.le_of_ble_eq_true rfl⟩, rfl, rfl⟩ rfl dL_law_12) (fun M H locs hp hw2 => ?_)
  subst hp
  have hw := hw2
  refine lv_astore_n (lv' := [(2, .ref (M 0)), (1, .ref (G 0)), (0, .ref b)]) cx.x cx.b dL_law_15 rfl hl (by decide) rfl (fun ls hl => ?_)
  refine lv_iconst (v := 1) cx.x cx.b dL_law_16 (by decide) ?_
  refine nw_l (N := 1) cx hw (by decide) rfl (by decide) (Nat.le_of_ble_eq_true rfl) (Nat.le_of_ble_eq_true rfl) dL_law_17 (fun ou H hw => ?_)
  have hw : Wd D cls _ s H _ (mw M Q (σ0, 0, 0, 0) ++ kwO G Q ou (σ0, fun _ => 0)) := (hw.sw2.asc).sw2
  refine lv_astore_n (lv' := [(3, .ref ou), (2, .ref (M 0)), (1, .ref (G 0)), (0, .ref b)]) cx.x cx.b dL_law_19 rfl hl (by decide) rfl (fun ls hl => ?_)
  refine lv_iconst (v := 0) cx.x cx.b dL_law_20 (by decide) ?_
  refine lv_istore (lv' := [(4, .int 0), (3, .ref ou), (2, .ref (M 0)), (1, .ref (G 0)), (0, .ref b)]) cx.x cx.b dL_law_21 hl (by decide) rfl (fun ls hl => ?_)
  have hL := hX.2.2.2
  refine W.widen (Nat.le_of_ble_eq_true rfl) (Nat.le_of_ble_eq_true rfl) (loopN (head := 23) (L / 4) (fun j => 24 + 20 * j) (fun j => 449 + 120 * j) (fun j H locs ls => ∃ (σ : St) (fo : Nat → Int64) (t1 t2 t3 : Int32), Inv (100 * (L / 4 - j)) σ ∧ Wd D cls (fun q => s.heap.size ≤ q) s H locs (mw M Q (σ, t1, t2, t3) ++ kwO G Q ou (σ, fo)) ∧ lv_has ls 7 [(0, .ref b), (1, .ref (G 0)), (2, .ref (M 0)), (3, .ref ou), (4, .int (nI (4 * j)))]) ⟨σ0, fun _ => 0, 0, 0, 0, inv_0 (by omega), hw, lv_sub hl [4, 3, 2, 1, 0] rfl⟩ ?_ ?_)
  · rintro H locs ls ⟨σ, fo, t1, t2, t3, hI, hw, hl⟩
    refine lv_iload cx.x cx.b dL_law_23 (lv_at hl 4 rfl) ?_
    refine lv_aload_n cx.x cx.b dL_law_25 rfl (lv_at hl 0 rfl) ?_
    refine slen cx hw hX dL_law_26 ?_
    refine lv_iconst (v := 4) cx.x cx.b dL_law_27 (by decide) ?_
    refine lv_isub cx.x cx.b dL_law_28 ?_
    refine lv_icmp_gt (tgt := 845) cx.x cx.b dL_law_29 (by decide) (fun _ => ?_) (fun h9 => absurd ((nI_sub4 hL (by omega)).mpr (by omega)) h9)
    refine lv_iconst (v := 1) cx.x cx.b dL_law_845 (by decide) ?_
    refine W.widen (k := 603072) (n := 7215210) (by show 24 + 20 * (L / 4) ≤ 603072; omega) (by show 449 + 120 * (L / 4) ≤ 7215210; omega) (va_forget (fun q hq => hw.2.2.2.2 q hq) (lw_ret cx.x cx.b cx.r cx.lk dL_law_846))
  · rintro j hj H locs ls ⟨σ, fo, t1, t2, t3, hI, hw, hl⟩ kk
    have hI : Inv (100 * (L / 4 - (j + 1)) + 100) σ := by
      rw [show 100 * (L / 4 - (j + 1)) + 100 = 100 * (L / 4 - j) by omega]; exact hI
    have hc : (24 + 20 * j) + 20 ≤ room_1.cells := by show (24 + 20 * j) + 20 ≤ 603072; omega
    have hs : (449 + 120 * j) + 120 ≤ room_1.slots := by show (449 + 120 * j) + 120 ≤ 7215210; omega
    have kk : ∀ (σ2 : St) (fo2 : Nat → Int64) (t1 t2 t3 : Int32) (H : Heap) (locs : List Loc) (ls : Array Slot), Inv (100 * (L / 4 - (j + 1))) σ2 → Wd D cls (fun q => s.heap.size ≤ q) s H locs (mw M Q (σ2, t1, t2, t3) ++ kwO G Q ou (σ2, fo2)) → lv_has ls 7 [(0, .ref b), (1, .ref (G 0)), (2, .ref (M 0)), (3, .ref ou), (4, .int (nI (4 * j)))] → W p l e room_1 s m #[Value.ref b] below meth c H locs ((24 + 20 * j) + 20) ((449 + 120 * j) + 120) (lw_Z below #[Value.ref b] s) (F0 m 839 ls []) := by
      intro σ2 fo2 t1 t2 t3 H locs ls hI hw hl
      refine lv_iinc (v := nI (4 * j) + 4) (lv' := [(4, .int (nI (4 * j) + 4)), (0, .ref b), (1, .ref (G 0)), (2, .ref (M 0)), (3, .ref ou)]) cx.x cx.b dL_law_839 hl (k := 4) rfl rfl (by decide) rfl (fun ls hl => ?_)
      refine lv_goto (tgt := 23) cx.x cx.b dL_law_842 (by decide) ?_
      have e4 : nI (4 * j) + 4 = nI (4 * (j + 1)) := nI_add (4 * j) 4
      rw [e4] at hl
      exact W.widen (by omega) (by omega) (kk H locs ls ⟨σ2, fo2, t1, t2, t3, hI, hw, lv_sub hl [1, 2, 3, 4, 0] rfl⟩)
    have hj3 : 4 * j + 3 < L := by omega
    refine lv_iload cx.x cx.b dL_law_23 (lv_at hl 4 rfl) ?_
    refine lv_aload_n cx.x cx.b dL_law_25 rfl (lv_at hl 0 rfl) ?_
    refine slen cx hw hX dL_law_26 ?_
    refine lv_iconst (v := 4) cx.x cx.b dL_law_27 (by decide) ?_
    refine lv_isub cx.x cx.b dL_law_28 ?_
    refine lv_icmp_gt (tgt := 845) cx.x cx.b dL_law_29 (by decide) (fun h9 => absurd ((nI_sub4 hL (by omega)).mp h9) (by omega)) (fun _ => ?_)
    refine lv_aload_n cx.x cx.b dL_law_32 rfl (lv_at hl 0 rfl) ?_
    refine lv_iload cx.x cx.b dL_law_33 (lv_at hl 4 rfl) ?_
    refine sld cx hw hX (4 * j) rfl (by omega) dL_law_35 ?_
    refine lv_bipush (v := 31) cx.x cx.b dL_law_36 (by decide) ?_
    refine lv_iand cx.x cx.b dL_law_38 ?_
    generalize xs (4 * j) &&& 31 = x
    by_cases h1 : x < 0
    · exact lv_tableOut (tgt := 839) cx.x cx.b dL_law_39 (Or.inl (Int32.lt_iff_toInt_lt.mp h1)) (by decide) (W.widen (by omega) (by omega) (kk σ fo t1 t2 t3 H locs ls (inv_same hI) hw hl))
    by_cases h2 : x ≤ 16
    · obtain ⟨k, hk, rfl⟩ := nI_of2 (M := 16) (n := 16) rfl h1 h2
      rcases (show k = 0 ∨ k = 1 ∨ k = 2 ∨ k = 3 ∨ k = 4 ∨ k = 5 ∨ k = 6 ∨ k = 7 ∨ k = 8 ∨ k = 9 ∨ k = 10 ∨ k = 11 ∨ k = 12 ∨ k = 13 ∨ k = 14 ∨ k = 15 ∨ k = 16 by omega) with rfl | rfl | rfl | rfl | rfl | rfl | rfl | rfl | rfl | rfl | rfl | rfl | rfl | rfl | rfl | rfl | rfl
      · exact lv_tableIn (tgt := 120) cx.x cx.b dL_law_39 (by decide) (by decide) (off := 81) (by decide) (by decide) (lw_c0 l hl0 D G M Q cx hX hj3 hI hw hl hc hs kk)
      · exact lv_tableIn (tgt := 157) cx.x cx.b dL_law_39 (by decide) (by decide) (off := 118) (by decide) (by decide) (lw_c1 l hl0 D G M Q cx hX hj3 hI hw hl hc hs kk)
      · exact lv_tableIn (tgt := 225) cx.x cx.b dL_law_39 (by decide) (by decide) (off := 186) (by decide) (by decide) (lw_c2 l hl0 D G M Q cx hX hj3 hI hw hl hc hs kk)
      · exact lv_tableIn (tgt := 250) cx.x cx.b dL_law_39 (by decide) (by decide) (off := 211) (by decide) (by decide) (lw_c3 l hl0 D G M Q cx hX hj3 hI hw hl hc hs kk)
      · exact lv_tableIn (tgt := 318) cx.x cx.b dL_law_39 (by decide) (by decide) (off := 279) (by decide) (by decide) (lw_c4 l hl0 D G M Q cx hX hj3 hI hw hl hc hs kk)
      · exact lv_tableIn (tgt := 343) cx.x cx.b dL_law_39 (by decide) (by decide) (off := 304) (by decide) (by decide) (lw_c5 l hl0 D G M Q cx hX hj3 hI hw hl hc hs kk)
      · exact lv_tableIn (tgt := 423) cx.x cx.b dL_law_39 (by decide) (by decide) (off := 384) (by decide) (by decide) (lw_c6 l hl0 D G M Q cx hX hj3 hI hw hl hc hs kk)
      · exact lv_tableIn (tgt := 460) cx.x cx.b dL_law_39 (by decide) (by decide) (off := 421) (by decide) (by decide) (lw_c7 l hl0 D G M Q cx hX hj3 hI hw hl hc hs kk)
      · exact lv_tableIn (tgt := 516) cx.x cx.b dL_law_39 (by decide) (by decide) (off := 477) (by decide) (by decide) (lw_c8 l hl0 D G M Q cx hX hj3 hI hw hl hc hs kk)
      · exact lv_tableIn (tgt := 572) cx.x cx.b dL_law_39 (by decide) (by decide) (off := 533) (by decide) (by decide) (lw_c9 l hl0 D G M Q cx hX hj3 hI hw hl hc hs kk)
      · exact lv_tableIn (tgt := 640) cx.x cx.b dL_law_39 (by decide) (by decide) (off := 601) (by decide) (by decide) (lw_c10 l hl0 D G M Q cx hX hj3 hI hw hl hc hs kk)
      · exact lv_tableIn (tgt := 665) cx.x cx.b dL_law_39 (by decide) (by decide) (off := 626) (by decide) (by decide) (lw_c11 l hl0 D G M Q cx hX hj3 hI hw hl hc hs kk)
      · exact lv_tableIn (tgt := 690) cx.x cx.b dL_law_39 (by decide) (by decide) (off := 651) (by decide) (by decide) (lw_c12 l hl0 D G M Q cx hX hj3 hI hw hl hc hs kk)
      · exact lv_tableIn (tgt := 727) cx.x cx.b dL_law_39 (by decide) (by decide) (off := 688) (by decide) (by decide) (lw_c13 l hl0 D G M Q cx hX hj3 hI hw hl hc hs kk)
      · exact lv_tableIn (tgt := 752) cx.x cx.b dL_law_39 (by decide) (by decide) (off := 713) (by decide) (by decide) (lw_c14 l hl0 D G M Q cx hX hj3 hI hw hl hc hs kk)
      · exact lv_tableIn (tgt := 789) cx.x cx.b dL_law_39 (by decide) (by decide) (off := 750) (by decide) (by decide) (lw_c15 l hl0 D G M Q cx hX hj3 hI hw hl hc hs kk)
      · exact lv_tableIn (tgt := 814) cx.x cx.b dL_law_39 (by decide) (by decide) (off := 775) (by decide) (by decide) (lw_c16 l hl0 D G M Q cx hX hj3 hI hw hl hc hs kk)
    · exact lv_tableOut (tgt := 839) cx.x cx.b dL_law_39 (Or.inr (Int32.lt_iff_toInt_lt.mp (Int32.not_le.mp h2))) (by decide) (W.widen (by omega) (by omega) (kk σ fo t1 t2 t3 H locs ls (inv_same hI) hw hl))
