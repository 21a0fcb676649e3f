set_option maxHeartbeats 4000000 in
set_option maxRecDepth 100000 in
theorem c_X7_isOut (l : Launch) (D : va_G) (G : Nat → Nat) (Q : Nat → ClassId) (σ : St) (k : Nat) (hk : k < 4) : MI l yX7_isOut cX7_isOut 1 .boolean ({ frames := 0, cells := 0, slots := 0, locals := 0 }) D cls (tyl Q) [.ref (G (5 + k))] (kw G Q) (kw G Q σ) (fun r u => r = b01 (s_z σ k = -1) ∧ u = σ) 0 0 := by
  refine MI_of (by decide) (Nat.le_of_ble_eq_true rfl) ?_
  intro p e s m args below meth c A ls cx hw hl
  have hl : lv_has ls 1 [(0, .ref (G (5 + k)))] := hl
  refine lv_aload_n cx.x cx.b dX7_isOut_0 rfl (lv_at hl 0 rfl) ?_
  refine gt_f (v := .int (s_z σ k)) cx hw (5 + k) (kw_s σ hk) rfl inX7 1 (by decide) tw_76 ⟨rfl, rfl, Or.inl rfl⟩ rfl dX7_isOut_1 ?_
  refine lv_iconst (v := (-1)) cx.x cx.b dX7_isOut_4 (by decide) ?_
  refine lv_icmp_ne (tgt := 12) cx.x cx.b dX7_isOut_5 (by decide) (fun hb5 => ?_) (fun hb5 => ?_)
  · refine lv_iconst (v := 0) cx.x cx.b dX7_isOut_12 (by decide) ?_
    exact ret_z σ cx hw rfl ⟨b01_0 hb5, rfl⟩ dX7_isOut_13 (Nat.le_of_ble_eq_true rfl) (Nat.le_of_ble_eq_true rfl)
  · refine lv_iconst (v := 1) cx.x cx.b dX7_isOut_8 (by decide) ?_
    refine lv_goto (tgt := 13) cx.x cx.b dX7_isOut_9 (by decide) ?_
    exact ret_z σ cx hw rfl ⟨b01_1 hb5, rfl⟩ dX7_isOut_13 (Nat.le_of_ble_eq_true rfl) (Nat.le_of_ble_eq_true rfl)
set_option maxHeartbeats 4000000 in
set_option maxRecDepth 100000 in
theorem c_X7_has (l : Launch) (D : va_G) (G : Nat → Nat) (Q : Nat → ClassId) (σ : St) (k : Nat) (hk : k < 4) (pl : Int32) : MI l yX7_has cX7_has 2 .boolean ({ frames := 0, cells := 0, slots := 0, locals := 0 }) D cls (tyl Q) [.ref (G (5 + k)), .int pl] (kw G Q) (kw G Q σ) (fun r u => r = b01 (hasP (s_z σ k) pl) ∧ u = σ) 0 0 := by
  refine MI_of (by decide) (Nat.le_of_ble_eq_true rfl) ?_
  intro p e s m args below meth c A ls cx hw hl
  have hl : lv_has ls 2 [(0, .ref (G (5 + k))), (1, .int pl)] := hl
  refine lv_iload_n cx.x cx.b dX7_has_0 rfl (lv_at hl 1 rfl) ?_
  refine lv_if_lt (tgt := 22) cx.x cx.b dX7_has_1 (by decide) (fun hb1 => ?_) (fun hb1 => ?_)
  · refine lv_iconst (v := 0) cx.x cx.b dX7_has_22 (by decide) ?_
    exact ret_z σ cx hw rfl ⟨b01_0 (fun h => Int32.not_lt.mpr h.1 hb1), rfl⟩ dX7_has_23 (Nat.le_of_ble_eq_true rfl) (Nat.le_of_ble_eq_true rfl)
  · refine lv_iload_n cx.x cx.b dX7_has_4 rfl (lv_at hl 1 rfl) ?_
    refine lv_aload_n cx.x cx.b dX7_has_5 rfl (lv_at hl 0 rfl) ?_
    refine gt_f (v := .int (s_z σ k)) cx hw (5 + k) (kw_s σ hk) rfl inX7 1 (by decide) tw_76 ⟨rfl, rfl, Or.inl rfl⟩ rfl dX7_has_6 ?_
    refine lv_icmp_ge (tgt := 22) cx.x cx.b dX7_has_9 (by decide) (fun hb9 => ?_) (fun hb9 => ?_)
    · refine lv_iconst (v := 0) cx.x cx.b dX7_has_22 (by decide) ?_
      exact ret_z σ cx hw rfl ⟨b01_0 (fun h => Int32.not_le.mpr h.2.1 hb9), rfl⟩ dX7_has_23 (Nat.le_of_ble_eq_true rfl) (Nat.le_of_ble_eq_true rfl)
    · refine lv_iload_n cx.x cx.b dX7_has_12 rfl (lv_at hl 1 rfl) ?_
      refine lv_bipush (v := 8) cx.x cx.b dX7_has_13 (by decide) ?_
      refine lv_icmp_ge (tgt := 22) cx.x cx.b dX7_has_15 (by decide) (fun hb15 => ?_) (fun hb15 => ?_)
      · refine lv_iconst (v := 0) cx.x cx.b dX7_has_22 (by decide) ?_
        exact ret_z σ cx hw rfl ⟨b01_0 (fun h => Int32.not_le.mpr h.2.2 hb15), rfl⟩ dX7_has_23 (Nat.le_of_ble_eq_true rfl) (Nat.le_of_ble_eq_true rfl)
      · refine lv_iconst (v := 1) cx.x cx.b dX7_has_18 (by decide) ?_
        refine lv_goto (tgt := 23) cx.x cx.b dX7_has_19 (by decide) ?_
        exact ret_z σ cx hw rfl ⟨b01_1 ⟨Int32.not_lt.mp hb1, Int32.not_le.mp hb9, Int32.not_le.mp hb15⟩, rfl⟩ dX7_has_23 (Nat.le_of_ble_eq_true rfl) (Nat.le_of_ble_eq_true rfl)
set_option maxHeartbeats 4000000 in
set_option maxRecDepth 100000 in
theorem c_X7_put (l : Launch) (D : va_G) (G : Nat → Nat) (Q : Nat → ClassId) (σ : St) (k : Nat) (hk : k < 4) (j : Nat) (hj : j < 8) (hz : nI j < s_z σ k) (x : Int32) : MV l yX7_put cX7_put 3 ({ frames := 1, cells := 0, slots := 0, locals := 21 }) D cls (tyl Q) [.ref (G (5 + k)), .int (nI j), .int x] (kw G Q) (kw G Q σ) (fun u => u = sR k j x σ) 0 0 := by
  refine MV_of (by decide) (Nat.le_of_ble_eq_true rfl) ?_
  intro p e s m args below meth c A ls cx hw hl
  have hl : lv_has ls 3 [(0, .ref (G (5 + k))), (1, .int (nI j)), (2, .int x)] := hl
  refine lv_aload_n cx.x cx.b dX7_put_0 rfl (lv_at hl 0 rfl) ?_
  refine lv_iload_n cx.x cx.b dX7_put_1 rfl (lv_at hl 1 rfl) ?_
  refine cgo_i cx hw (rV_i (q0 := (5 + k)) (n := 1) (As := [.int (nI j)]) (rest := []) cx hw (c_X7_has l D G Q σ k hk (nI j)) (gd_V tw_390 tw_391 tw_392 tw_3 tw_393) rfl ⟨by decide +kernel, rfl, hl.1, (Nat.le_of_ble_eq_true rfl), ⟨(Nat.le_of_ble_eq_true rfl), (Nat.le_of_ble_eq_true rfl)⟩, ⟨(Nat.le_of_ble_eq_true rfl), (Nat.le_of_ble_eq_true rfl)⟩, rfl, rfl⟩ rfl (kw_s σ hk) rfl dX7_put_2) (fun r u H locs hp hw => ?_)
  obtain ⟨h8, h9⟩ := hp
  have h8 := h8.symm
  have h9 := h9.symm
  subst h8
  subst h9
  refine lv_if_eq (tgt := 15) cx.x cx.b dX7_put_5 (by decide) (fun hb5 => absurd hb5 (by rw [b01_eq0]; exact fun h => h ⟨nI_pos' (by omega), hz, nI_lt (b := 8) hj (by decide)⟩)) (fun hb5 => ?_)
  refine lv_aload_n cx.x cx.b dX7_put_8 rfl (lv_at hl 0 rfl) ?_
  refine gt_f (v := .ref (G (9 + k))) cx hw (5 + k) (kw_s σ hk) rfl inX7 0 (by decide) tw_75 ⟨rfl, rfl, Or.inl rfl⟩ rfl dX7_put_9 ?_
  refine lv_iload_n cx.x cx.b dX7_put_12 rfl (lv_at hl 1 rfl) ?_
  refine lv_iload_n cx.x cx.b dX7_put_13 rfl (lv_at hl 2 rfl) ?_
  refine ast_i (f := s_r σ k) cx hw (9 + k) 0 (kw_row σ hk) rfl j rfl hj (by decide) dX7_put_14 (w1 := kw G Q (sR k j x σ)) (kw_sR hk) (fun H locs hw => ?_)
  exact ret_v (sR k j x σ) cx hw rfl dX7_put_15 (Nat.le_of_ble_eq_true rfl) (Nat.le_of_ble_eq_true rfl)
set_option maxHeartbeats 4000000 in
set_option maxRecDepth 100000 in
theorem c_X7_takeOut (l : Launch) (D : va_G) (G : Nat → Nat) (Q : Nat → ClassId) (σ : St) (k : Nat) (hk : k < 4) : MV l yX7_takeOut cX7_takeOut 1 ({ frames := 0, cells := 0, slots := 0, locals := 0 }) D cls (tyl Q) [.ref (G (5 + k))] (kw G Q) (kw G Q σ) (fun u => u = sZ k (-1) σ) 0 0 := by
  refine MV_of (by decide) (Nat.le_of_ble_eq_true rfl) ?_
  intro p e s m args below meth c A ls cx hw hl
  have hl : lv_has ls 1 [(0, .ref (G (5 + k)))] := hl
  refine lv_aload_n cx.x cx.b dX7_takeOut_0 rfl (lv_at hl 0 rfl) ?_
  refine lv_iconst (v := (-1)) cx.x cx.b dX7_takeOut_1 (by decide) ?_
  refine pt_f cx hw (5 + k) (kw_s σ hk) rfl inX7 tyX7 tyX7_ok nmX7 1 (by decide) tw_76 ⟨rfl, rfl, Or.inl rfl⟩ rfl rfl rfl rfl (Nat.le_of_ble_eq_true rfl) dX7_takeOut_2 (w1 := kw G Q (sZ k (-1) σ)) (kw_sZ hk) (fun H locs hw => ?_)
  exact ret_v (sZ k (-1) σ) cx hw rfl dX7_takeOut_5 (Nat.le_of_ble_eq_true rfl) (Nat.le_of_ble_eq_true rfl)
set_option maxHeartbeats 4000000 in
set_option maxRecDepth 100000 in
theorem c_X7_loafIn (l : Launch) (D : va_G) (G : Nat → Nat) (Q : Nat → ClassId) (σ : St) (k : Nat) (hk : k < 4) (pl : Int32) : MI l yX7_loafIn cX7_loafIn 2 .int ({ frames := 1, cells := 0, slots := 0, locals := 21 }) D cls (tyl Q) [.ref (G (5 + k)), .int pl] (kw G Q) (kw G Q σ) (fun r u => r = (if hasP (s_z σ k) pl then s_r σ k pl.toNatClampNeg else -1) ∧ u = σ) 0 0 := by
  refine MI_of (by decide) (Nat.le_of_ble_eq_true rfl) ?_
  intro p e s m args below meth c A ls cx hw hl
  have hl : lv_has ls 2 [(0, .ref (G (5 + k))), (1, .int pl)] := hl
  by_cases hp : hasP (s_z σ k) pl
  · obtain ⟨j, hj, rfl, hz⟩ := hasP_nI hp
    refine lv_aload_n cx.x cx.b dX7_loafIn_0 rfl (lv_at hl 0 rfl) ?_
    refine lv_iload_n cx.x cx.b dX7_loafIn_1 rfl (lv_at hl 1 rfl) ?_
    refine cgo_i cx hw (rV_i (q0 := (5 + k)) (n := 1) (As := [.int (nI j)]) (rest := []) cx hw (c_X7_has l D G Q σ k hk (nI j)) (gd_V tw_390 tw_391 tw_392 tw_3 tw_393) rfl ⟨by decide +kernel, rfl, hl.1, (Nat.le_of_ble_eq_true rfl), ⟨(Nat.le_of_ble_eq_true rfl), (Nat.le_of_ble_eq_true rfl)⟩, ⟨(Nat.le_of_ble_eq_true rfl), (Nat.le_of_ble_eq_true rfl)⟩, rfl, rfl⟩ rfl (kw_s σ hk) rfl dX7_loafIn_2) (fun r u H locs hp hw => ?_)
    obtain ⟨h8, h9⟩ := hp
    have h8 := h8.symm
    have h9 := h9.symm
    subst h8
    subst h9
    refine lv_if_eq (tgt := 17) cx.x cx.b dX7_loafIn_5 (by decide) (fun hb5 => absurd hb5 (by rw [b01_eq0]; exact fun h => h hp)) (fun hb5 => ?_)
    refine lv_aload_n cx.x cx.b dX7_loafIn_8 rfl (lv_at hl 0 rfl) ?_
    refine gt_f (v := .ref (G (9 + k))) cx hw (5 + k) (kw_s σ hk) rfl inX7 0 (by decide) tw_75 ⟨rfl, rfl, Or.inl rfl⟩ rfl dX7_loafIn_9 ?_
    refine lv_iload_n cx.x cx.b dX7_loafIn_12 rfl (lv_at hl 1 rfl) ?_
    refine ald_i (f := s_r σ k) cx hw (9 + k) 0 (kw_row σ hk) rfl j rfl hj (by decide) dX7_loafIn_13 ?_
    refine lv_goto (tgt := 18) cx.x cx.b dX7_loafIn_14 (by decide) ?_
    exact ret_i σ cx hw ⟨by rw [if_pos hp, nI_clamp (by omega)], rfl⟩ dX7_loafIn_18 (Nat.le_of_ble_eq_true rfl) (Nat.le_of_ble_eq_true rfl)
  · refine lv_aload_n cx.x cx.b dX7_loafIn_0 rfl (lv_at hl 0 rfl) ?_
    refine lv_iload_n cx.x cx.b dX7_loafIn_1 rfl (lv_at hl 1 rfl) ?_
    refine cgo_i cx hw (rV_i (q0 := (5 + k)) (n := 1) (As := [.int pl]) (rest := []) cx hw (c_X7_has l D G Q σ k hk pl) (gd_V tw_390 tw_391 tw_392 tw_3 tw_393) rfl ⟨by decide +kernel, rfl, hl.1, (Nat.le_of_ble_eq_true rfl), ⟨(Nat.le_of_ble_eq_true rfl), (Nat.le_of_ble_eq_true rfl)⟩, ⟨(Nat.le_of_ble_eq_true rfl), (Nat.le_of_ble_eq_true rfl)⟩, rfl, rfl⟩ rfl (kw_s σ hk) rfl dX7_loafIn_2) (fun r u H locs hp hw => ?_)
    obtain ⟨h8, h9⟩ := hp
    have h8 := h8.symm
    have h9 := h9.symm
    subst h8
    subst h9
    refine lv_if_eq (tgt := 17) cx.x cx.b dX7_loafIn_5 (by decide) (fun hb5 => ?_) (fun hb5 => absurd (b01_eq0.mpr hp) hb5)
    refine lv_iconst (v := (-1)) cx.x cx.b dX7_loafIn_17 (by decide) ?_
    exact ret_i σ cx hw ⟨by rw [if_neg hp], rfl⟩ dX7_loafIn_18 (Nat.le_of_ble_eq_true rfl) (Nat.le_of_ble_eq_true rfl)
set_option maxHeartbeats 4000000 in
set_option maxRecDepth 100000 in
theorem c_X2_isDoneByCrust (l : Launch) (D : va_G) (G : Nat → Nat) (Q : Nat → ClassId) (σ : St) (i : Nat) (hn : i < s_n σ) (hd : s_k σ i < 8) : MI l yX2_isDoneByCrust cX2_isDoneByCrust 1 .boolean ({ frames := 0, cells := 0, slots := 0, locals := 0 }) D cls (tyl Q) [.ref (s_a σ i)] (kw G Q) (kw G Q σ) (fun r u => r = b01 (20 ≤ s_F σ 7 i) ∧ u = σ) 0 0 := by
  refine MI_of (by decide) (Nat.le_of_ble_eq_true rfl) ?_
  intro p e s m args below meth c A ls cx hw hl
  have hl : lv_has ls 1 [(0, .ref (s_a σ i))] := hl
  refine lv_aload_n cx.x cx.b dX2_isDoneByCrust_0 rfl (lv_at hl 0 rfl) ?_
  refine gt_f (v := .int (s_F σ 7 i)) cx hw (13 + i) (kw_d σ hn) (cls_d hd) (inD_all _ hd) 7 (by decide) tw_150 ⟨rfl, rfl, Or.inl rfl⟩ rfl dX2_isDoneByCrust_1 ?_
  refine lv_bipush (v := 20) cx.x cx.b dX2_isDoneByCrust_4 (by decide) ?_
  refine lv_icmp_lt (tgt := 13) cx.x cx.b dX2_isDoneByCrust_6 (by decide) (fun hb6 => ?_) (fun hb6 => ?_)
  · refine lv_iconst (v := 0) cx.x cx.b dX2_isDoneByCrust_13 (by decide) ?_
    exact ret_z σ cx hw rfl ⟨b01_0 (Int32.not_le.mpr hb6), rfl⟩ dX2_isDoneByCrust_14 (Nat.le_of_ble_eq_true rfl) (Nat.le_of_ble_eq_true rfl)
  · refine lv_iconst (v := 1) cx.x cx.b dX2_isDoneByCrust_9 (by decide) ?_
    refine lv_goto (tgt := 14) cx.x cx.b dX2_isDoneByCrust_10 (by decide) ?_
    exact ret_z σ cx hw rfl ⟨b01_1 (Int32.not_lt.mp hb6), rfl⟩ dX2_isDoneByCrust_14 (Nat.le_of_ble_eq_true rfl) (Nat.le_of_ble_eq_true rfl)
theorem cwu_idc {k : Nat} (h : k < 8) : CwU "BakeHouse$Dough" (kR k) "BakeHouse$Dough" 77 ⟨"BakeHouse$Dough", "isDoneByCrust", "()Z"⟩ yX2_isDoneByCrust cX2_isDoneByCrust 1 (some .boolean) := by
  rcases (show k = 0 ∨ k = 1 ∨ k = 2 ∨ k = 3 ∨ k = 4 ∨ k = 5 ∨ k = 6 ∨ k = 7 by omega) with rfl | rfl | rfl | rfl | rfl | rfl | rfl | rfl
  · exact ⟨tw_362, tw_365, tw_363, tw_364, tw_363, tw_5, tw_373, ⟨_, _, _, tw_373⟩, by decide, rfl⟩
  · exact ⟨tw_362, tw_365, tw_363, tw_368, tw_363, tw_5, tw_373, ⟨_, _, _, tw_373⟩, by decide, rfl⟩
  · exact ⟨tw_362, tw_365, tw_363, tw_370, tw_363, tw_5, tw_373, ⟨_, _, _, tw_373⟩, by decide, rfl⟩
  · exact ⟨tw_362, tw_365, tw_363, tw_372, tw_363, tw_5, tw_373, ⟨_, _, _, tw_373⟩, by decide, rfl⟩
  · exact ⟨tw_362, tw_365, tw_363, tw_371, tw_363, tw_5, tw_373, ⟨_, _, _, tw_373⟩, by decide, rfl⟩
  · exact ⟨tw_362, tw_365, tw_363, tw_366, tw_363, tw_5, tw_373, ⟨_, _, _, tw_373⟩, by decide, rfl⟩
  · exact ⟨tw_362, tw_365, tw_363, tw_367, tw_363, tw_5, tw_373, ⟨_, _, _, tw_373⟩, by decide, rfl⟩
  · exact ⟨tw_362, tw_365, tw_363, tw_369, tw_363, tw_5, tw_373, ⟨_, _, _, tw_373⟩, by decide, rfl⟩
theorem cwu_idcL {k : Nat} (h : k = 7) : CwU "BakeHouse$Levain" (kR k) "BakeHouse$Dough" 37 ⟨"BakeHouse$Levain", "isDoneByCrust", "()Z"⟩ yX2_isDoneByCrust cX2_isDoneByCrust 1 (some .boolean) := by
  subst h
  exact ⟨tw_717, tw_718, tw_363, tw_720, tw_363, tw_5, tw_373, ⟨_, _, _, tw_373⟩, by decide, rfl⟩
set_option maxHeartbeats 4000000 in
set_option maxRecDepth 100000 in
theorem c_X2_doRest (l : Launch) (D : va_G) (G : Nat → Nat) (Q : Nat → ClassId) (σ : St) (i : Nat) (hn : i < s_n σ) (hd : s_k σ i < 8) (mi : Int32) : MI l yX2_doRest cX2_doRest 2 .int ({ frames := 1, cells := 0, slots := 0, locals := 22 }) D cls (tyl Q) [.ref (s_a σ i), .int mi] (kw G Q) (kw G Q σ) (fun r u => r = s_F (pR0 i mi σ) 4 i ∧ u = pR0 i mi σ) 0 0 := by
  refine MI_of (by decide) (Nat.le_of_ble_eq_true rfl) ?_
  intro p e s m args below meth c A ls cx hw hl
  have hl : lv_has ls 2 [(0, .ref (s_a σ i)), (1, .int mi)] := hl
  refine lv_aload_n cx.x cx.b dX2_doRest_0 rfl (lv_at hl 0 rfl) ?_
  refine gt_f (v := .ref (G 1)) cx hw (13 + i) (kw_d σ hn) (cls_d hd) (inD_all _ hd) 0 (by decide) tw_118 ⟨rfl, rfl, Or.inl rfl⟩ rfl dX2_doRest_1 ?_
  refine lv_iconst (v := 0) cx.x cx.b dX2_doRest_4 (by decide) ?_
  refine lv_iconst (v := 0) cx.x cx.b dX2_doRest_5 (by decide) ?_
  refine cgo_v cx hw (rV_v (q0 := 1) (n := 2) (As := [.int 0, .int 0]) (rest := []) cx hw (c_X0_begin l D G Q σ 0 0) (gd_V tw_330 tw_306 tw_307 tw_2 tw_308) rfl ⟨by decide +kernel, rfl, hl.1, (Nat.le_of_ble_eq_true rfl), ⟨(Nat.le_of_ble_eq_true rfl), (Nat.le_of_ble_eq_true rfl)⟩, ⟨(Nat.le_of_ble_eq_true rfl), (Nat.le_of_ble_eq_true rfl)⟩, rfl, rfl⟩ rfl (kw_b σ) rfl dX2_doRest_6) (fun u H locs hp hw => ?_)
  have hp := hp.symm
  subst hp
  refine lv_aload_n cx.x cx.b dX2_doRest_9 rfl (lv_at hl 0 rfl) ?_
  refine lv_aload_n cx.x cx.b dX2_doRest_10 rfl (lv_at hl 0 rfl) ?_
  refine gt_f (v := .int (s_F σ 4 i)) cx hw (13 + i) (kw_d (sBeg 0 0 σ) hn) (cls_d hd) (inD_all _ hd) 4 (by decide) tw_136 ⟨rfl, rfl, Or.inl rfl⟩ rfl dX2_doRest_11 ?_
  refine lv_iload_n cx.x cx.b dX2_doRest_14 rfl (lv_at hl 1 rfl) ?_
  refine lv_bipush (v := 6) cx.x cx.b dX2_doRest_15 (by decide) ?_
  refine lv_idiv cx.x cx.b dX2_doRest_17 (by decide) ?_
  refine lv_iadd cx.x cx.b dX2_doRest_18 ?_
  refine lv_bipush (v := 100) cx.x cx.b dX2_doRest_19 (by decide) ?_
  refine va_mmin cx.x cx.b (cx.ml.trans hl.1.symm) cx.ow (cx.ts _ tw_511) (cx.ts _ tw_512) (cx.ts _ tw_18) (cx.ts _ tw_513) (Nat.le_of_ble_eq_true rfl) (Nat.le_of_ble_eq_true rfl) (Nat.le_of_ble_eq_true rfl) (Nat.le_of_ble_eq_true rfl) dX2_doRest_21 ?_
  refine pt_f cx hw (13 + i) (kw_d (sBeg 0 0 σ) hn) (cls_d hd) (inD_all _ hd) tyX2 tyX2_ok nmX2 4 (by decide) tw_136 ⟨rfl, rfl, Or.inl rfl⟩ rfl rfl rfl rfl (Nat.le_of_ble_eq_true rfl) dX2_doRest_24 (w1 := kw G Q (sF 4 i (if 100 < ((s_F σ 4 i) + (mi / 6)) then 100 else ((s_F σ 4 i) + (mi / 6))) (sBeg 0 0 σ))) (kw_sF (by decide)) (fun H locs hw => ?_)
  refine lv_aload_n cx.x cx.b dX2_doRest_27 rfl (lv_at hl 0 rfl) ?_
  refine gt_f (v := .int (s_F (sF 4 i (if 100 < ((s_F σ 4 i) + (mi / 6)) then 100 else ((s_F σ 4 i) + (mi / 6))) (sBeg 0 0 σ)) 4 i)) cx hw (13 + i) (kw_d (sF 4 i (if 100 < ((s_F σ 4 i) + (mi / 6)) then 100 else ((s_F σ 4 i) + (mi / 6))) (sBeg 0 0 σ)) hn) (cls_d hd) (inD_all _ hd) 4 (by decide) tw_136 ⟨rfl, rfl, Or.inl rfl⟩ rfl dX2_doRest_28 ?_
  exact ret_i (sF 4 i (if 100 < ((s_F σ 4 i) + (mi / 6)) then 100 else ((s_F σ 4 i) + (mi / 6))) (sBeg 0 0 σ)) cx hw ⟨rfl, rfl⟩ dX2_doRest_31 (Nat.le_of_ble_eq_true rfl) (Nat.le_of_ble_eq_true rfl)
set_option maxHeartbeats 4000000 in
set_option maxRecDepth 100000 in
theorem c_X6_doRest (l : Launch) (D : va_G) (G : Nat → Nat) (Q : Nat → ClassId) (σ : St) (i : Nat) (hn : i < s_n σ) (hd : s_k σ i < 8) (mi : Int32) : MI l yX6_doRest cX6_doRest 2 .int ({ frames := 2, cells := 0, slots := 0, locals := 43 }) D cls (tyl Q) [.ref (s_a σ i), .int mi] (kw G Q) (kw G Q σ) (fun r u => r = s_F (pR2 i mi σ) 4 i ∧ u = pR2 i mi σ) 0 0 := by
  refine MI_of (by decide) (Nat.le_of_ble_eq_true rfl) ?_
  intro p e s m args below meth c A ls cx hw hl
  have hl : lv_has ls 2 [(0, .ref (s_a σ i)), (1, .int mi)] := hl
  refine lv_aload_n cx.x cx.b dX6_doRest_0 rfl (lv_at hl 0 rfl) ?_
  refine gt_f (v := .ref (G 1)) cx hw (13 + i) (kw_d σ hn) (cls_d hd) (inD_all _ hd) 0 (by decide) tw_125 ⟨rfl, rfl, Or.inr tw_126⟩ rfl dX6_doRest_1 ?_
  refine lv_iconst (v := 0) cx.x cx.b dX6_doRest_4 (by decide) ?_
  refine lv_iconst (v := 2) cx.x cx.b dX6_doRest_5 (by decide) ?_
  refine cgo_v cx hw (rV_v (q0 := 1) (n := 2) (As := [.int 0, .int 2]) (rest := []) cx hw (c_X0_begin l D G Q σ 0 2) (gd_V tw_356 tw_306 tw_307 tw_2 tw_308) rfl ⟨by decide +kernel, rfl, hl.1, (Nat.le_of_ble_eq_true rfl), ⟨(Nat.le_of_ble_eq_true rfl), (Nat.le_of_ble_eq_true rfl)⟩, ⟨(Nat.le_of_ble_eq_true rfl), (Nat.le_of_ble_eq_true rfl)⟩, rfl, rfl⟩ rfl (kw_b σ) rfl dX6_doRest_6) (fun u H locs hp hw => ?_)
  have hp := hp.symm
  subst hp
  refine lv_aload_n cx.x cx.b dX6_doRest_9 rfl (lv_at hl 0 rfl) ?_
  refine lv_iload_n cx.x cx.b dX6_doRest_10 rfl (lv_at hl 1 rfl) ?_
  refine lv_iconst (v := 2) cx.x cx.b dX6_doRest_11 (by decide) ?_
  refine lv_idiv cx.x cx.b dX6_doRest_12 (by decide) ?_
  refine cgo_i cx hw (rSU_i (x := ⟨"BakeHouse$Leavened", "doRest", "(I)I"⟩) (n := 1) (As := [.int (mi / 2)]) (rest := []) cx hw (c_X2_doRest l D G Q (sBeg 0 2 σ) i hn hd (mi / 2)) ⟨rfl, tw_505, tw_506, tw_187, tw_403, tw_5, tw_510, by decide, (sb_up_of (cx.ts _ tw_172) (cx.ts _ tw_273) (va_Nw.use rfl (cx.ev.2.2.2.2.1 _ (by decide +kernel))))⟩ ⟨by decide +kernel, rfl, hl.1, (Nat.le_of_ble_eq_true rfl), ⟨(Nat.le_of_ble_eq_true rfl), (Nat.le_of_ble_eq_true rfl)⟩, ⟨(Nat.le_of_ble_eq_true rfl), (Nat.le_of_ble_eq_true rfl)⟩, rfl, rfl⟩ rfl (kw_d (sBeg 0 2 σ) hn) (cls_d hd) dX6_doRest_13) (fun r u H locs hp hw => ?_)
  obtain ⟨h8, h9⟩ := hp
  have h8 := h8.symm
  have h9 := h9.symm
  subst h8
  subst h9
  exact ret_i (pR0 i (mi / 2) (sBeg 0 2 σ)) cx hw ⟨rfl, rfl⟩ dX6_doRest_16 (Nat.le_of_ble_eq_true rfl) (Nat.le_of_ble_eq_true rfl)
set_option maxHeartbeats 4000000 in
set_option maxRecDepth 100000 in
theorem c_X8_doRest (l : Launch) (D : va_G) (G : Nat → Nat) (Q : Nat → ClassId) (σ : St) (i : Nat) (hn : i < s_n σ) (hd : s_k σ i < 8) (mi : Int32) : MI l yX8_doRest cX8_doRest 2 .int ({ frames := 3, cells := 0, slots := 0, locals := 64 }) D cls (tyl Q) [.ref (s_a σ i), .int mi] (kw G Q) (kw G Q σ) (fun r u => r = s_F (pR4 i mi σ) 4 i ∧ u = pR4 i mi σ) 0 0 := by
  refine MI_of (by decide) (Nat.le_of_ble_eq_true rfl) ?_
  intro p e s m args below meth c A ls cx hw hl
  have hl : lv_has ls 2 [(0, .ref (s_a σ i)), (1, .int mi)] := hl
  refine lv_aload_n cx.x cx.b dX8_doRest_0 rfl (lv_at hl 0 rfl) ?_
  refine gt_f (v := .ref (G 1)) cx hw (13 + i) (kw_d σ hn) (cls_d hd) (inD_all _ hd) 0 (by decide) tw_123 ⟨rfl, rfl, Or.inr tw_124⟩ rfl dX8_doRest_1 ?_
  refine lv_iconst (v := 0) cx.x cx.b dX8_doRest_4 (by decide) ?_
  refine lv_iconst (v := 4) cx.x cx.b dX8_doRest_5 (by decide) ?_
  refine cgo_v cx hw (rV_v (q0 := 1) (n := 2) (As := [.int 0, .int 4]) (rest := []) cx hw (c_X0_begin l D G Q σ 0 4) (gd_V tw_320 tw_306 tw_307 tw_2 tw_308) rfl ⟨by decide +kernel, rfl, hl.1, (Nat.le_of_ble_eq_true rfl), ⟨(Nat.le_of_ble_eq_true rfl), (Nat.le_of_ble_eq_true rfl)⟩, ⟨(Nat.le_of_ble_eq_true rfl), (Nat.le_of_ble_eq_true rfl)⟩, rfl, rfl⟩ rfl (kw_b σ) rfl dX8_doRest_6) (fun u H locs hp hw => ?_)
  have hp := hp.symm
  subst hp
  refine lv_aload_n cx.x cx.b dX8_doRest_9 rfl (lv_at hl 0 rfl) ?_
  refine lv_dup cx.x cx.b dX8_doRest_10 rfl ?_
  refine gt_f (v := .int (s_F σ 6 i)) cx hw (13 + i) (kw_d (sBeg 0 4 σ) hn) (cls_d hd) (inD_all _ hd) 6 (by decide) tw_145 ⟨rfl, rfl, Or.inr tw_146⟩ rfl dX8_doRest_11 ?_
  refine lv_iconst (v := 1) cx.x cx.b dX8_doRest_14 (by decide) ?_
  refine lv_iadd cx.x cx.b dX8_doRest_15 ?_
  refine pt_f cx hw (13 + i) (kw_d (sBeg 0 4 σ) hn) (cls_d hd) (inD_all _ hd) tyX2 tyX2_ok nmX2 6 (by decide) tw_145 ⟨rfl, rfl, Or.inr tw_146⟩ rfl rfl rfl rfl (Nat.le_of_ble_eq_true rfl) dX8_doRest_16 (w1 := kw G Q (sF 6 i ((s_F σ 6 i) + 1) (sBeg 0 4 σ))) (kw_sF (by decide)) (fun H locs hw => ?_)
  refine lv_aload_n cx.x cx.b dX8_doRest_19 rfl (lv_at hl 0 rfl) ?_
  refine lv_iload_n cx.x cx.b dX8_doRest_20 rfl (lv_at hl 1 rfl) ?_
  refine cgo_i cx hw (rSU_i (x := ⟨"BakeHouse$Rye", "doRest", "(I)I"⟩) (n := 1) (As := [.int mi]) (rest := []) cx hw (c_X6_doRest l D G Q (sF 6 i ((s_F σ 6 i) + 1) (sBeg 0 4 σ)) i hn hd mi) ⟨rfl, tw_502, tw_956, tw_217, tw_503, tw_7, tw_504, by decide, sb_up_rf⟩ ⟨by decide +kernel, rfl, hl.1, (Nat.le_of_ble_eq_true rfl), ⟨(Nat.le_of_ble_eq_true rfl), (Nat.le_of_ble_eq_true rfl)⟩, ⟨(Nat.le_of_ble_eq_true rfl), (Nat.le_of_ble_eq_true rfl)⟩, rfl, rfl⟩ rfl (kw_d (sF 6 i ((s_F σ 6 i) + 1) (sBeg 0 4 σ)) hn) (cls_d hd) dX8_doRest_21) (fun r u H locs hp hw => ?_)
  obtain ⟨h8, h9⟩ := hp
  have h8 := h8.symm
  have h9 := h9.symm
  subst h8
  subst h9
  exact ret_i (pR2 i mi (sF 6 i ((s_F σ 6 i) + 1) (sBeg 0 4 σ))) cx hw ⟨rfl, rfl⟩ dX8_doRest_24 (Nat.le_of_ble_eq_true rfl) (Nat.le_of_ble_eq_true rfl)
set_option maxHeartbeats 4000000 in
set_option maxRecDepth 100000 in
theorem c_X5_doRest (l : Launch) (D : va_G) (G : Nat → Nat) (Q : Nat → ClassId) (σ : St) (i : Nat) (hn : i < s_n σ) (hd : s_k σ i < 8) (mi : Int32) : MI l yX5_doRest cX5_doRest 2 .int ({ frames := 4, cells := 0, slots := 0, locals := 85 }) D cls (tyl Q) [.ref (s_a σ i), .int mi] (kw G Q) (kw G Q σ) (fun r u => r = s_F (pR7 i mi σ) 4 i ∧ u = pR7 i mi σ) 0 0 := by
  refine MI_of (by decide) (Nat.le_of_ble_eq_true rfl) ?_
  intro p e s m args below meth c A ls cx hw hl
  have hl : lv_has ls 2 [(0, .ref (s_a σ i)), (1, .int mi)] := hl
  refine lv_aload_n cx.x cx.b dX5_doRest_0 rfl (lv_at hl 0 rfl) ?_
  refine gt_f (v := .ref (G 1)) cx hw (13 + i) (kw_d σ hn) (cls_d hd) (inD_all _ hd) 0 (by decide) tw_121 ⟨rfl, rfl, Or.inr tw_122⟩ rfl dX5_doRest_1 ?_
  refine lv_iconst (v := 0) cx.x cx.b dX5_doRest_4 (by decide) ?_
  refine lv_bipush (v := 7) cx.x cx.b dX5_doRest_5 (by decide) ?_
  refine cgo_v cx hw (rV_v (q0 := 1) (n := 2) (As := [.int 0, .int 7]) (rest := []) cx hw (c_X0_begin l D G Q σ 0 7) (gd_V tw_498 tw_306 tw_307 tw_2 tw_308) rfl ⟨by decide +kernel, rfl, hl.1, (Nat.le_of_ble_eq_true rfl), ⟨(Nat.le_of_ble_eq_true rfl), (Nat.le_of_ble_eq_true rfl)⟩, ⟨(Nat.le_of_ble_eq_true rfl), (Nat.le_of_ble_eq_true rfl)⟩, rfl, rfl⟩ rfl (kw_b σ) rfl dX5_doRest_7) (fun u H locs hp hw => ?_)
  have hp := hp.symm
  subst hp
  refine lv_aload_n cx.x cx.b dX5_doRest_10 rfl (lv_at hl 0 rfl) ?_
  refine lv_iload_n cx.x cx.b dX5_doRest_11 rfl (lv_at hl 1 rfl) ?_
  refine lv_aload_n cx.x cx.b dX5_doRest_12 rfl (lv_at hl 0 rfl) ?_
  refine gt_f (v := .int (s_F σ 6 i)) cx hw (13 + i) (kw_d (sBeg 0 7 σ) hn) (cls_d hd) (inD_all _ hd) 6 (by decide) tw_147 ⟨rfl, rfl, Or.inr tw_148⟩ rfl dX5_doRest_13 ?_
  refine lv_iadd cx.x cx.b dX5_doRest_16 ?_
  refine cgo_i cx hw (rSU_i (x := ⟨"BakeHouse$Sour", "doRest", "(I)I"⟩) (n := 1) (As := [.int (mi + (s_F σ 6 i))]) (rest := []) cx hw (c_X8_doRest l D G Q (sBeg 0 7 σ) i hn hd (mi + (s_F σ 6 i))) ⟨rfl, tw_499, tw_955, tw_262, tw_500, tw_9, tw_501, by decide, sb_up_rf⟩ ⟨by decide +kernel, rfl, hl.1, (Nat.le_of_ble_eq_true rfl), ⟨(Nat.le_of_ble_eq_true rfl), (Nat.le_of_ble_eq_true rfl)⟩, ⟨(Nat.le_of_ble_eq_true rfl), (Nat.le_of_ble_eq_true rfl)⟩, rfl, rfl⟩ rfl (kw_d (sBeg 0 7 σ) hn) (cls_d hd) dX5_doRest_17) (fun r u H locs hp hw => ?_)
  obtain ⟨h8, h9⟩ := hp
  have h8 := h8.symm
  have h9 := h9.symm
  subst h8
  subst h9
  exact ret_i (pR4 i (mi + (s_F σ 6 i)) (sBeg 0 7 σ)) cx hw ⟨rfl, rfl⟩ dX5_doRest_20 (Nat.le_of_ble_eq_true rfl) (Nat.le_of_ble_eq_true rfl)
set_option maxHeartbeats 4000000 in
set_option maxRecDepth 100000 in
theorem c_X1_doRest (l : Launch) (hl0 : l.stackTraces = false) (D : va_G) (G : Nat → Nat) (Q : Nat → ClassId) (σ : St) (i : Nat) (hn : i < s_n σ) (hd : s_k σ i < 8) (mi : Int32) : XI l yX1_doRest cX1_doRest 3 .int ({ frames := 6, cells := 1, slots := 6, locals := 90 }) D cls (tyl Q) [.ref (s_a σ i), .int mi] (kw G Q) (kw G Q σ) (fun r u => ¬ 90 ≤ s_F (pR5a i mi σ) 4 i ∧ r = s_F (pR5a i mi σ) 4 i ∧ u = pR5a i mi σ) (fun E u => 90 ≤ s_F (pR5a i mi σ) 4 i ∧ E = "java/lang/IllegalStateException" ∧ u = pR5f i mi σ) 1 6 := by
  refine XI_of (by decide) (Nat.le_of_ble_eq_true rfl) ?_
  intro p e s m args below meth c A ls htab cx hw hl
  have hl : lv_has ls 3 [(0, .ref (s_a σ i)), (1, .int mi)] := hl
  refine lv_aload_n cx.x cx.b dX1_doRest_0 rfl (lv_at hl 0 rfl) ?_
  refine gt_f (v := .ref (G 1)) cx hw (13 + i) (kw_d σ hn) (cls_d hd) (inD_all _ hd) 0 (by decide) tw_119 ⟨rfl, rfl, Or.inr tw_120⟩ rfl dX1_doRest_1 ?_
  refine lv_iconst (v := 0) cx.x cx.b dX1_doRest_4 (by decide) ?_
  refine lv_iconst (v := 5) cx.x cx.b dX1_doRest_5 (by decide) ?_
  refine cgo_v cx hw (rV_v (q0 := 1) (n := 2) (As := [.int 0, .int 5]) (rest := []) cx hw (c_X0_begin l D G Q σ 0 5) (gd_V tw_409 tw_306 tw_307 tw_2 tw_308) rfl ⟨by decide +kernel, rfl, hl.1, (Nat.le_of_ble_eq_true rfl), ⟨(Nat.le_of_ble_eq_true rfl), (Nat.le_of_ble_eq_true rfl)⟩, ⟨(Nat.le_of_ble_eq_true rfl), (Nat.le_of_ble_eq_true rfl)⟩, rfl, rfl⟩ rfl (kw_b σ) rfl dX1_doRest_6) (fun u H locs hp hw => ?_)
  have hp := hp.symm
  subst hp
  refine lv_aload_n cx.x cx.b dX1_doRest_9 rfl (lv_at hl 0 rfl) ?_
  refine lv_iload_n cx.x cx.b dX1_doRest_10 rfl (lv_at hl 1 rfl) ?_
  refine cgo_i cx hw (rSU_i (x := ⟨"BakeHouse$Sweet", "doRest", "(I)I"⟩) (n := 1) (As := [.int mi]) (rest := []) cx hw (c_X2_doRest l D G Q (sBeg 0 5 σ) i hn hd mi) ⟨rfl, tw_410, tw_411, tw_232, tw_403, tw_5, tw_510, by decide, (sb_up_of (cx.ts _ tw_202) (cx.ts _ tw_273) (va_Nw.use rfl (cx.ev.2.2.2.2.1 _ (by decide +kernel))))⟩ ⟨by decide +kernel, rfl, hl.1, (Nat.le_of_ble_eq_true rfl), ⟨(Nat.le_of_ble_eq_true rfl), (Nat.le_of_ble_eq_true rfl)⟩, ⟨(Nat.le_of_ble_eq_true rfl), (Nat.le_of_ble_eq_true rfl)⟩, rfl, rfl⟩ rfl (kw_d (sBeg 0 5 σ) hn) (cls_d hd) dX1_doRest_11) (fun r u H locs hp hw => ?_)
  obtain ⟨h8, h9⟩ := hp
  have h8 := h8.symm
  have h9 := h9.symm
  subst h8
  subst h9
  refine lv_istore_n (lv' := [(2, .int (s_F (pR0 i mi (sBeg 0 5 σ)) 4 i)), (0, .ref (s_a σ i)), (1, .int mi)]) cx.x cx.b dX1_doRest_14 rfl hl (by decide) rfl (fun ls hl => ?_)
  refine lv_aload_n cx.x cx.b dX1_doRest_15 rfl (lv_at hl 1 rfl) ?_
  refine gt_f (v := .int (s_F (pR0 i mi (sBeg 0 5 σ)) 4 i)) cx hw (13 + i) (kw_d (pR0 i mi (sBeg 0 5 σ)) hn) (cls_d hd) (inD_all _ hd) 4 (by decide) tw_137 ⟨rfl, rfl, Or.inr tw_138⟩ rfl dX1_doRest_16 ?_
  refine lv_bipush (v := 90) cx.x cx.b dX1_doRest_19 (by decide) ?_
  refine lv_icmp_lt (tgt := 53) cx.x cx.b dX1_doRest_21 (by decide) (fun hb21 => ?_) (fun hb21 => ?_)
  · refine lv_iload_n cx.x cx.b dX1_doRest_53 rfl (lv_at hl 0 rfl) ?_
    exact xret_i (pR0 i mi (sBeg 0 5 σ)) cx hw ⟨Int32.not_le.mpr hb21, rfl, rfl⟩ dX1_doRest_54 (Nat.le_of_ble_eq_true rfl) (Nat.le_of_ble_eq_true rfl)
  · refine lv_aload_n cx.x cx.b dX1_doRest_24 rfl (lv_at hl 1 rfl) ?_
    refine lv_bipush (v := 10) cx.x cx.b dX1_doRest_25 (by decide) ?_
    refine pt_f cx hw (13 + i) (kw_d (pR0 i mi (sBeg 0 5 σ)) hn) (cls_d hd) (inD_all _ hd) tyX2 tyX2_ok nmX2 4 (by decide) tw_137 ⟨rfl, rfl, Or.inr tw_138⟩ rfl rfl rfl rfl (Nat.le_of_ble_eq_true rfl) dX1_doRest_27 (w1 := kw G Q (sF 4 i 10 (pR0 i mi (sBeg 0 5 σ)))) (kw_sF (by decide)) (fun H locs hw => ?_)
    refine lv_aload_n cx.x cx.b dX1_doRest_30 rfl (lv_at hl 1 rfl) ?_
    refine gt_f (v := .ref (G 1)) cx hw (13 + i) (kw_d (sF 4 i 10 (pR0 i mi (sBeg 0 5 σ))) hn) (cls_d hd) (inD_all _ hd) 0 (by decide) tw_119 ⟨rfl, rfl, Or.inr tw_120⟩ rfl dX1_doRest_31 ?_
    refine lv_dup cx.x cx.b dX1_doRest_34 rfl ?_
    refine gt_f (v := .int (s_c σ 4)) cx hw 1 (kw_b (sF 4 i 10 (pR0 i mi (sBeg 0 5 σ)))) rfl inX0 4 (by decide) tw_44 ⟨rfl, rfl, Or.inl rfl⟩ rfl dX1_doRest_35 ?_
    refine lv_iconst (v := 1) cx.x cx.b dX1_doRest_38 (by decide) ?_
    refine lv_iadd cx.x cx.b dX1_doRest_39 ?_
    refine pt_f cx hw 1 (kw_b (sF 4 i 10 (pR0 i mi (sBeg 0 5 σ)))) rfl inX0 tyX0 tyX0_ok nmX0 4 (by decide) tw_44 ⟨rfl, rfl, Or.inl rfl⟩ rfl rfl rfl rfl (Nat.le_of_ble_eq_true rfl) dX1_doRest_40 (w1 := kw G Q (sC 4 ((s_c σ 4) + 1) (sF 4 i 10 (pR0 i mi (sBeg 0 5 σ))))) (kw_sC (by decide)) (fun H locs hw => ?_)
    exact thr_i (sC 4 ((s_c σ 4) + 1) (sF 4 i 10 (pR0 i mi (sBeg 0 5 σ)))) hl0 htab cx hw (ok_ISE cx) hl.1 dX1_doRest_43 dX1_doRest_46 dX1_doRest_47 dX1_doRest_49 dX1_doRest_52 ⟨(Nat.le_of_ble_eq_true rfl), (Nat.le_of_ble_eq_true rfl), (Nat.le_of_ble_eq_true rfl), (Nat.le_of_ble_eq_true rfl)⟩ ⟨Int32.not_lt.mp hb21, rfl, rfl⟩ (Nat.le_of_ble_eq_true rfl) (Nat.le_of_ble_eq_true rfl)
set_option maxHeartbeats 4000000 in
set_option maxRecDepth 100000 in
theorem c_X2_doFold (l : Launch) (D : va_G) (G : Nat → Nat) (Q : Nat → ClassId) (σ : St) (i : Nat) (hn : i < s_n σ) (hd : s_k σ i < 8) : MV l yX2_doFold cX2_doFold 1 ({ frames := 1, cells := 0, slots := 0, locals := 22 }) D cls (tyl Q) [.ref (s_a σ i)] (kw G Q) (kw G Q σ) (fun u => u = pF0 i σ) 0 0 := by
  refine MV_of (by decide) (Nat.le_of_ble_eq_true rfl) ?_
  intro p e s m args below meth c A ls cx hw hl
  have hl : lv_has ls 1 [(0, .ref (s_a σ i))] := hl
  refine lv_aload_n cx.x cx.b dX2_doFold_0 rfl (lv_at hl 0 rfl) ?_
  refine gt_f (v := .ref (G 1)) cx hw (13 + i) (kw_d σ hn) (cls_d hd) (inD_all _ hd) 0 (by decide) tw_118 ⟨rfl, rfl, Or.inl rfl⟩ rfl dX2_doFold_1 ?_
  refine lv_iconst (v := 1) cx.x cx.b dX2_doFold_4 (by decide) ?_
  refine lv_iconst (v := 0) cx.x cx.b dX2_doFold_5 (by decide) ?_
  refine cgo_v cx hw (rV_v (q0 := 1) (n := 2) (As := [.int 1, .int 0]) (rest := []) cx hw (c_X0_begin l D G Q σ 1 0) (gd_V tw_330 tw_306 tw_307 tw_2 tw_308) rfl ⟨by decide +kernel, rfl, hl.1, (Nat.le_of_ble_eq_true rfl), ⟨(Nat.le_of_ble_eq_true rfl), (Nat.le_of_ble_eq_true rfl)⟩, ⟨(Nat.le_of_ble_eq_true rfl), (Nat.le_of_ble_eq_true rfl)⟩, rfl, rfl⟩ rfl (kw_b σ) rfl dX2_doFold_6) (fun u H locs hp hw => ?_)
  have hp := hp.symm
  subst hp
  refine lv_aload_n cx.x cx.b dX2_doFold_9 rfl (lv_at hl 0 rfl) ?_
  refine lv_aload_n cx.x cx.b dX2_doFold_10 rfl (lv_at hl 0 rfl) ?_
  refine gt_f (v := .int (s_F σ 4 i)) cx hw (13 + i) (kw_d (sBeg 1 0 σ) hn) (cls_d hd) (inD_all _ hd) 4 (by decide) tw_136 ⟨rfl, rfl, Or.inl rfl⟩ rfl dX2_doFold_11 ?_
  refine lv_iconst (v := 2) cx.x cx.b dX2_doFold_14 (by decide) ?_
  refine lv_idiv cx.x cx.b dX2_doFold_15 (by decide) ?_
  refine pt_f cx hw (13 + i) (kw_d (sBeg 1 0 σ) hn) (cls_d hd) (inD_all _ hd) tyX2 tyX2_ok nmX2 4 (by decide) tw_136 ⟨rfl, rfl, Or.inl rfl⟩ rfl rfl rfl rfl (Nat.le_of_ble_eq_true rfl) dX2_doFold_16 (w1 := kw G Q (sF 4 i ((s_F σ 4 i) / 2) (sBeg 1 0 σ))) (kw_sF (by decide)) (fun H locs hw => ?_)
  refine lv_aload_n cx.x cx.b dX2_doFold_19 rfl (lv_at hl 0 rfl) ?_
  refine lv_dup cx.x cx.b dX2_doFold_20 rfl ?_
  refine gt_f (v := .int (s_F σ 5 i)) cx hw (13 + i) (kw_d (sF 4 i ((s_F σ 4 i) / 2) (sBeg 1 0 σ)) hn) (cls_d hd) (inD_all _ hd) 5 (by decide) tw_140 ⟨rfl, rfl, Or.inl rfl⟩ rfl dX2_doFold_21 ?_
  refine lv_iconst (v := 1) cx.x cx.b dX2_doFold_24 (by decide) ?_
  refine lv_iadd cx.x cx.b dX2_doFold_25 ?_
  refine pt_f cx hw (13 + i) (kw_d (sF 4 i ((s_F σ 4 i) / 2) (sBeg 1 0 σ)) hn) (cls_d hd) (inD_all _ hd) tyX2 tyX2_ok nmX2 5 (by decide) tw_140 ⟨rfl, rfl, Or.inl rfl⟩ rfl rfl rfl rfl (Nat.le_of_ble_eq_true rfl) dX2_doFold_26 (w1 := kw G Q (sF 5 i ((s_F σ 5 i) + 1) (sF 4 i ((s_F σ 4 i) / 2) (sBeg 1 0 σ)))) (kw_sF (by decide)) (fun H locs hw => ?_)
  exact ret_v (sF 5 i ((s_F σ 5 i) + 1) (sF 4 i ((s_F σ 4 i) / 2) (sBeg 1 0 σ))) cx hw rfl dX2_doFold_29 (Nat.le_of_ble_eq_true rfl) (Nat.le_of_ble_eq_true rfl)
set_option maxHeartbeats 4000000 in
set_option maxRecDepth 100000 in
theorem c_X9_doFold (l : Launch) (D : va_G) (G : Nat → Nat) (Q : Nat → ClassId) (σ : St) (i : Nat) (hn : i < s_n σ) (hd : s_k σ i < 8) : MV l yX9_doFold cX9_doFold 1 ({ frames := 2, cells := 0, slots := 0, locals := 42 }) D cls (tyl Q) [.ref (s_a σ i)] (kw G Q) (kw G Q σ) (fun u => u = pF3 i σ) 0 0 := by
  refine MV_of (by decide) (Nat.le_of_ble_eq_true rfl) ?_
  intro p e s m args below meth c A ls cx hw hl
  have hl : lv_has ls 1 [(0, .ref (s_a σ i))] := hl
  refine lv_aload_n cx.x cx.b dX9_doFold_0 rfl (lv_at hl 0 rfl) ?_
  refine gt_f (v := .ref (G 1)) cx hw (13 + i) (kw_d σ hn) (cls_d hd) (inD_all _ hd) 0 (by decide) tw_127 ⟨rfl, rfl, Or.inr tw_128⟩ rfl dX9_doFold_1 ?_
  refine lv_iconst (v := 1) cx.x cx.b dX9_doFold_4 (by decide) ?_
  refine lv_iconst (v := 3) cx.x cx.b dX9_doFold_5 (by decide) ?_
  refine cgo_v cx hw (rV_v (q0 := 1) (n := 2) (As := [.int 1, .int 3]) (rest := []) cx hw (c_X0_begin l D G Q σ 1 3) (gd_V tw_305 tw_306 tw_307 tw_2 tw_308) rfl ⟨by decide +kernel, rfl, hl.1, (Nat.le_of_ble_eq_true rfl), ⟨(Nat.le_of_ble_eq_true rfl), (Nat.le_of_ble_eq_true rfl)⟩, ⟨(Nat.le_of_ble_eq_true rfl), (Nat.le_of_ble_eq_true rfl)⟩, rfl, rfl⟩ rfl (kw_b σ) rfl dX9_doFold_6) (fun u H locs hp hw => ?_)
  have hp := hp.symm
  subst hp
  refine lv_aload_n cx.x cx.b dX9_doFold_9 rfl (lv_at hl 0 rfl) ?_
  refine cgo_v cx hw (rSU_v (x := ⟨"BakeHouse$Leavened", "doFold", "()V"⟩) (n := 0) (As := []) (rest := []) cx hw (c_X2_doFold l D G Q (sBeg 1 3 σ) i hn hd ) ⟨rfl, tw_309, tw_310, tw_202, tw_299, tw_5, tw_329, by decide, (sb_up_of (cx.ts _ tw_172) (cx.ts _ tw_273) (va_Nw.use rfl (cx.ev.2.2.2.2.1 _ (by decide +kernel))))⟩ ⟨by decide +kernel, rfl, hl.1, (Nat.le_of_ble_eq_true rfl), ⟨(Nat.le_of_ble_eq_true rfl), (Nat.le_of_ble_eq_true rfl)⟩, ⟨(Nat.le_of_ble_eq_true rfl), (Nat.le_of_ble_eq_true rfl)⟩, rfl, rfl⟩ rfl (kw_d (sBeg 1 3 σ) hn) (cls_d hd) dX9_doFold_10) (fun u H locs hp hw => ?_)
  have hp := hp.symm
  subst hp
  refine lv_aload_n cx.x cx.b dX9_doFold_13 rfl (lv_at hl 0 rfl) ?_
  refine cgo_v cx hw (rSU_v (x := ⟨"BakeHouse$Leavened", "doFold", "()V"⟩) (n := 0) (As := []) (rest := []) cx hw (c_X2_doFold l D G Q (pF0 i (sBeg 1 3 σ)) i hn hd ) ⟨rfl, tw_309, tw_310, tw_202, tw_299, tw_5, tw_329, by decide, (sb_up_of (cx.ts _ tw_172) (cx.ts _ tw_273) (va_Nw.use rfl (cx.ev.2.2.2.2.1 _ (by decide +kernel))))⟩ ⟨by decide +kernel, rfl, hl.1, (Nat.le_of_ble_eq_true rfl), ⟨(Nat.le_of_ble_eq_true rfl), (Nat.le_of_ble_eq_true rfl)⟩, ⟨(Nat.le_of_ble_eq_true rfl), (Nat.le_of_ble_eq_true rfl)⟩, rfl, rfl⟩ rfl (kw_d (pF0 i (sBeg 1 3 σ)) hn) (cls_d hd) dX9_doFold_14) (fun u H locs hp hw => ?_)
  have hp := hp.symm
  subst hp
  exact ret_v (pF0 i (pF0 i (sBeg 1 3 σ))) cx hw rfl dX9_doFold_17 (Nat.le_of_ble_eq_true rfl) (Nat.le_of_ble_eq_true rfl)
set_option maxHeartbeats 4000000 in
set_option maxRecDepth 100000 in
theorem c_X8_doFold (l : Launch) (D : va_G) (G : Nat → Nat) (Q : Nat → ClassId) (σ : St) (i : Nat) (hn : i < s_n σ) (hd : s_k σ i < 8) (ac : Nat) (hac : s_F σ 6 i = nI ac) (hab : ac < 2 ^ 30) : MV l yX8_doFold cX8_doFold 1 ({ frames := 2, cells := 0, slots := 0, locals := 42 }) D cls (tyl Q) [.ref (s_a σ i)] (kw G Q) (kw G Q σ) (fun u => u = pF4 i σ) 0 0 := by
  refine MV_of (by decide) (Nat.le_of_ble_eq_true rfl) ?_
  intro p e s m args below meth c A ls cx hw hl
  have hl : lv_has ls 1 [(0, .ref (s_a σ i))] := hl
  refine lv_aload_n cx.x cx.b dX8_doFold_0 rfl (lv_at hl 0 rfl) ?_
  refine gt_f (v := .ref (G 1)) cx hw (13 + i) (kw_d σ hn) (cls_d hd) (inD_all _ hd) 0 (by decide) tw_123 ⟨rfl, rfl, Or.inr tw_124⟩ rfl dX8_doFold_1 ?_
  refine lv_iconst (v := 1) cx.x cx.b dX8_doFold_4 (by decide) ?_
  refine lv_iconst (v := 4) cx.x cx.b dX8_doFold_5 (by decide) ?_
  refine cgo_v cx hw (rV_v (q0 := 1) (n := 2) (As := [.int 1, .int 4]) (rest := []) cx hw (c_X0_begin l D G Q σ 1 4) (gd_V tw_320 tw_306 tw_307 tw_2 tw_308) rfl ⟨by decide +kernel, rfl, hl.1, (Nat.le_of_ble_eq_true rfl), ⟨(Nat.le_of_ble_eq_true rfl), (Nat.le_of_ble_eq_true rfl)⟩, ⟨(Nat.le_of_ble_eq_true rfl), (Nat.le_of_ble_eq_true rfl)⟩, rfl, rfl⟩ rfl (kw_b σ) rfl dX8_doFold_6) (fun u H locs hp hw => ?_)
  have hp := hp.symm
  subst hp
  refine lv_aload_n cx.x cx.b dX8_doFold_9 rfl (lv_at hl 0 rfl) ?_
  refine cgo_v cx hw (rSU_v (x := ⟨"BakeHouse$Rye", "doFold", "()V"⟩) (n := 0) (As := []) (rest := []) cx hw (c_X2_doFold l D G Q (sBeg 1 4 σ) i hn hd ) ⟨rfl, tw_321, tw_322, tw_217, tw_299, tw_5, tw_329, by decide, (sb_up_of (cx.ts _ tw_187) (cx.ts _ tw_273) (va_Nw.use rfl (cx.ev.2.2.2.2.1 _ (by decide +kernel))))⟩ ⟨by decide +kernel, rfl, hl.1, (Nat.le_of_ble_eq_true rfl), ⟨(Nat.le_of_ble_eq_true rfl), (Nat.le_of_ble_eq_true rfl)⟩, ⟨(Nat.le_of_ble_eq_true rfl), (Nat.le_of_ble_eq_true rfl)⟩, rfl, rfl⟩ rfl (kw_d (sBeg 1 4 σ) hn) (cls_d hd) dX8_doFold_10) (fun u H locs hp hw => ?_)
  have hp := hp.symm
  subst hp
  refine lv_aload_n cx.x cx.b dX8_doFold_13 rfl (lv_at hl 0 rfl) ?_
  refine lv_aload_n cx.x cx.b dX8_doFold_14 rfl (lv_at hl 0 rfl) ?_
  refine gt_f (v := .int (s_F σ 6 i)) cx hw (13 + i) (kw_d (pF0 i (sBeg 1 4 σ)) hn) (cls_d hd) (inD_all _ hd) 6 (by decide) tw_145 ⟨rfl, rfl, Or.inr tw_146⟩ rfl dX8_doFold_15 ?_
  refine lv_iconst (v := 1) cx.x cx.b dX8_doFold_18 (by decide) ?_
  refine lv_isub cx.x cx.b dX8_doFold_19 ?_
  refine lv_iconst (v := 0) cx.x cx.b dX8_doFold_20 (by decide) ?_
  refine va_mmax cx.x cx.b (cx.ml.trans hl.1.symm) cx.ow (cx.ts _ tw_323) (cx.ts _ tw_324) (cx.ts _ tw_18) (cx.ts _ tw_325) (Nat.le_of_ble_eq_true rfl) (Nat.le_of_ble_eq_true rfl) (Nat.le_of_ble_eq_true rfl) (Nat.le_of_ble_eq_true rfl) dX8_doFold_21 ?_
  refine pt_f cx hw (13 + i) (kw_d (pF0 i (sBeg 1 4 σ)) hn) (cls_d hd) (inD_all _ hd) tyX2 tyX2_ok nmX2 6 (by decide) tw_145 ⟨rfl, rfl, Or.inr tw_146⟩ rfl rfl rfl rfl (Nat.le_of_ble_eq_true rfl) dX8_doFold_24 (w1 := kw G Q (sF 6 i (if ((s_F σ 6 i) - 1) < 0 then 0 else ((s_F σ 6 i) - 1)) (pF0 i (sBeg 1 4 σ)))) (kw_sF (by decide)) (fun H locs hw => ?_)
  exact ret_v (sF 6 i (if ((s_F σ 6 i) - 1) < 0 then 0 else ((s_F σ 6 i) - 1)) (pF0 i (sBeg 1 4 σ))) cx hw (by show sF 6 i (if s_F σ 6 i - 1 < 0 then 0 else s_F σ 6 i - 1) _ = sF 6 i (dec0 (s_F σ 6 i)) _; rw [hac, acid_max hab]) dX8_doFold_27 (Nat.le_of_ble_eq_true rfl) (Nat.le_of_ble_eq_true rfl)
set_option maxHeartbeats 4000000 in
set_option maxRecDepth 100000 in
theorem c_X3_doFold (l : Launch) (D : va_G) (G : Nat → Nat) (Q : Nat → ClassId) (σ : St) (i : Nat) (hn : i < s_n σ) (hd : s_k σ i < 8) : MV l yX3_doFold cX3_doFold 1 ({ frames := 1, cells := 0, slots := 0, locals := 22 }) D cls (tyl Q) [.ref (s_a σ i)] (kw G Q) (kw G Q σ) (fun u => u = pF6 i σ) 0 0 := by
  refine MV_of (by decide) (Nat.le_of_ble_eq_true rfl) ?_
  intro p e s m args below meth c A ls cx hw hl
  have hl : lv_has ls 1 [(0, .ref (s_a σ i))] := hl
  refine lv_aload_n cx.x cx.b dX3_doFold_0 rfl (lv_at hl 0 rfl) ?_
  refine gt_f (v := .ref (G 1)) cx hw (13 + i) (kw_d σ hn) (cls_d hd) (inD_all _ hd) 0 (by decide) tw_129 ⟨rfl, rfl, Or.inr tw_130⟩ rfl dX3_doFold_1 ?_
  refine lv_iconst (v := 1) cx.x cx.b dX3_doFold_4 (by decide) ?_
  refine lv_bipush (v := 6) cx.x cx.b dX3_doFold_5 (by decide) ?_
  refine cgo_v cx hw (rV_v (q0 := 1) (n := 2) (As := [.int 1, .int 6]) (rest := []) cx hw (c_X0_begin l D G Q σ 1 6) (gd_V tw_315 tw_306 tw_307 tw_2 tw_308) rfl ⟨by decide +kernel, rfl, hl.1, (Nat.le_of_ble_eq_true rfl), ⟨(Nat.le_of_ble_eq_true rfl), (Nat.le_of_ble_eq_true rfl)⟩, ⟨(Nat.le_of_ble_eq_true rfl), (Nat.le_of_ble_eq_true rfl)⟩, rfl, rfl⟩ rfl (kw_b σ) rfl dX3_doFold_7) (fun u H locs hp hw => ?_)
  have hp := hp.symm
  subst hp
  refine lv_aload_n cx.x cx.b dX3_doFold_10 rfl (lv_at hl 0 rfl) ?_
  refine lv_dup cx.x cx.b dX3_doFold_11 rfl ?_
  refine gt_f (v := .int (s_F σ 5 i)) cx hw (13 + i) (kw_d (sBeg 1 6 σ) hn) (cls_d hd) (inD_all _ hd) 5 (by decide) tw_141 ⟨rfl, rfl, Or.inr tw_142⟩ rfl dX3_doFold_12 ?_
  refine lv_iconst (v := 1) cx.x cx.b dX3_doFold_15 (by decide) ?_
  refine lv_iadd cx.x cx.b dX3_doFold_16 ?_
  refine pt_f cx hw (13 + i) (kw_d (sBeg 1 6 σ) hn) (cls_d hd) (inD_all _ hd) tyX2 tyX2_ok nmX2 5 (by decide) tw_141 ⟨rfl, rfl, Or.inr tw_142⟩ rfl rfl rfl rfl (Nat.le_of_ble_eq_true rfl) dX3_doFold_17 (w1 := kw G Q (sF 5 i ((s_F σ 5 i) + 1) (sBeg 1 6 σ))) (kw_sF (by decide)) (fun H locs hw => ?_)
  exact ret_v (sF 5 i ((s_F σ 5 i) + 1) (sBeg 1 6 σ)) cx hw rfl dX3_doFold_20 (Nat.le_of_ble_eq_true rfl) (Nat.le_of_ble_eq_true rfl)
set_option maxHeartbeats 4000000 in
set_option maxRecDepth 100000 in
theorem c_X2_doBake (l : Launch) (D : va_G) (G : Nat → Nat) (Q : Nat → ClassId) (σ : St) (i : Nat) (hn : i < s_n σ) (hd : s_k σ i < 8) (ht : Int32) : MI l yX2_doBake cX2_doBake 2 .boolean ({ frames := 1, cells := 0, slots := 0, locals := 22 }) D cls (tyl Q) [.ref (s_a σ i), .int ht] (kw G Q) (kw G Q σ) (fun r u => r = b01 (20 ≤ s_F (pB0 i ht σ) 7 i) ∧ u = pB0 i ht σ) 0 0 := by
  refine MI_of (by decide) (Nat.le_of_ble_eq_true rfl) ?_
  intro p e s m args below meth c A ls cx hw hl
  have hl : lv_has ls 2 [(0, .ref (s_a σ i)), (1, .int ht)] := hl
  refine lv_aload_n cx.x cx.b dX2_doBake_0 rfl (lv_at hl 0 rfl) ?_
  refine gt_f (v := .ref (G 1)) cx hw (13 + i) (kw_d σ hn) (cls_d hd) (inD_all _ hd) 0 (by decide) tw_118 ⟨rfl, rfl, Or.inl rfl⟩ rfl dX2_doBake_1 ?_
  refine lv_iconst (v := 3) cx.x cx.b dX2_doBake_4 (by decide) ?_
  refine lv_iconst (v := 0) cx.x cx.b dX2_doBake_5 (by decide) ?_
  refine cgo_v cx hw (rV_v (q0 := 1) (n := 2) (As := [.int 3, .int 0]) (rest := []) cx hw (c_X0_begin l D G Q σ 3 0) (gd_V tw_330 tw_306 tw_307 tw_2 tw_308) rfl ⟨by decide +kernel, rfl, hl.1, (Nat.le_of_ble_eq_true rfl), ⟨(Nat.le_of_ble_eq_true rfl), (Nat.le_of_ble_eq_true rfl)⟩, ⟨(Nat.le_of_ble_eq_true rfl), (Nat.le_of_ble_eq_true rfl)⟩, rfl, rfl⟩ rfl (kw_b σ) rfl dX2_doBake_6) (fun u H locs hp hw => ?_)
  have hp := hp.symm
  subst hp
  refine lv_aload_n cx.x cx.b dX2_doBake_9 rfl (lv_at hl 0 rfl) ?_
  refine lv_dup cx.x cx.b dX2_doBake_10 rfl ?_
  refine gt_f (v := .int (s_F σ 7 i)) cx hw (13 + i) (kw_d (sBeg 3 0 σ) hn) (cls_d hd) (inD_all _ hd) 7 (by decide) tw_150 ⟨rfl, rfl, Or.inl rfl⟩ rfl dX2_doBake_11 ?_
  refine lv_iload_n cx.x cx.b dX2_doBake_14 rfl (lv_at hl 1 rfl) ?_
  refine lv_aload_n cx.x cx.b dX2_doBake_15 rfl (lv_at hl 0 rfl) ?_
  refine gt_f (v := .int (s_F σ 4 i)) cx hw (13 + i) (kw_d (sBeg 3 0 σ) hn) (cls_d hd) (inD_all _ hd) 4 (by decide) tw_136 ⟨rfl, rfl, Or.inl rfl⟩ rfl dX2_doBake_16 ?_
  refine lv_iadd cx.x cx.b dX2_doBake_19 ?_
  refine lv_bipush (v := 10) cx.x cx.b dX2_doBake_20 (by decide) ?_
  refine lv_idiv cx.x cx.b dX2_doBake_22 (by decide) ?_
  refine lv_iadd cx.x cx.b dX2_doBake_23 ?_
  refine pt_f cx hw (13 + i) (kw_d (sBeg 3 0 σ) hn) (cls_d hd) (inD_all _ hd) tyX2 tyX2_ok nmX2 7 (by decide) tw_150 ⟨rfl, rfl, Or.inl rfl⟩ rfl rfl rfl rfl (Nat.le_of_ble_eq_true rfl) dX2_doBake_24 (w1 := kw G Q (sF 7 i ((s_F σ 7 i) + ((ht + (s_F σ 4 i)) / 10)) (sBeg 3 0 σ))) (kw_sF (by decide)) (fun H locs hw => ?_)
  refine lv_aload_n cx.x cx.b dX2_doBake_27 rfl (lv_at hl 0 rfl) ?_
  refine cgo_i cx hw (rU_i (x := ⟨"BakeHouse$Dough", "isDoneByCrust", "()Z"⟩) (n := 0) (As := []) (rest := []) cx hw (c_X2_isDoneByCrust l D G Q (sF 7 i ((s_F σ 7 i) + ((ht + (s_F σ 4 i)) / 10)) (sBeg 3 0 σ)) i hn hd) (cwu_idc hd) ⟨by decide +kernel, rfl, hl.1, (Nat.le_of_ble_eq_true rfl), ⟨(Nat.le_of_ble_eq_true rfl), (Nat.le_of_ble_eq_true rfl)⟩, ⟨(Nat.le_of_ble_eq_true rfl), (Nat.le_of_ble_eq_true rfl)⟩, rfl, rfl⟩ rfl (kw_d (sF 7 i ((s_F σ 7 i) + ((ht + (s_F σ 4 i)) / 10)) (sBeg 3 0 σ)) hn) (cls_d hd) dX2_doBake_28) (fun r u H locs hp hw => ?_)
  obtain ⟨h8, h9⟩ := hp
  have h8 := h8.symm
  have h9 := h9.symm
  subst h8
  subst h9
  exact ret_z (sF 7 i ((s_F σ 7 i) + ((ht + (s_F σ 4 i)) / 10)) (sBeg 3 0 σ)) cx hw b01_nar ⟨rfl, rfl⟩ dX2_doBake_31 (Nat.le_of_ble_eq_true rfl) (Nat.le_of_ble_eq_true rfl)
set_option maxHeartbeats 4000000 in
set_option maxRecDepth 100000 in
theorem c_X6_doBake (l : Launch) (D : va_G) (G : Nat → Nat) (Q : Nat → ClassId) (σ : St) (i : Nat) (hn : i < s_n σ) (hd : s_k σ i < 8) (ht : Int32) : MI l yX6_doBake cX6_doBake 2 .boolean ({ frames := 2, cells := 0, slots := 0, locals := 43 }) D cls (tyl Q) [.ref (s_a σ i), .int ht] (kw G Q) (kw G Q σ) (fun r u => r = b01 (20 ≤ s_F (pB2 i ht σ) 7 i) ∧ u = pB2 i ht σ) 0 0 := by
  refine MI_of (by decide) (Nat.le_of_ble_eq_true rfl) ?_
  intro p e s m args below meth c A ls cx hw hl
  have hl : lv_has ls 2 [(0, .ref (s_a σ i)), (1, .int ht)] := hl
  refine lv_aload_n cx.x cx.b dX6_doBake_0 rfl (lv_at hl 0 rfl) ?_
  refine gt_f (v := .ref (G 1)) cx hw (13 + i) (kw_d σ hn) (cls_d hd) (inD_all _ hd) 0 (by decide) tw_125 ⟨rfl, rfl, Or.inr tw_126⟩ rfl dX6_doBake_1 ?_
  refine lv_iconst (v := 3) cx.x cx.b dX6_doBake_4 (by decide) ?_
  refine lv_iconst (v := 2) cx.x cx.b dX6_doBake_5 (by decide) ?_
  refine cgo_v cx hw (rV_v (q0 := 1) (n := 2) (As := [.int 3, .int 2]) (rest := []) cx hw (c_X0_begin l D G Q σ 3 2) (gd_V tw_356 tw_306 tw_307 tw_2 tw_308) rfl ⟨by decide +kernel, rfl, hl.1, (Nat.le_of_ble_eq_true rfl), ⟨(Nat.le_of_ble_eq_true rfl), (Nat.le_of_ble_eq_true rfl)⟩, ⟨(Nat.le_of_ble_eq_true rfl), (Nat.le_of_ble_eq_true rfl)⟩, rfl, rfl⟩ rfl (kw_b σ) rfl dX6_doBake_6) (fun u H locs hp hw => ?_)
  have hp := hp.symm
  subst hp
  refine lv_aload_n cx.x cx.b dX6_doBake_9 rfl (lv_at hl 0 rfl) ?_
  refine lv_iload_n cx.x cx.b dX6_doBake_10 rfl (lv_at hl 1 rfl) ?_
  refine lv_bipush (v := 30) cx.x cx.b dX6_doBake_11 (by decide) ?_
  refine lv_isub cx.x cx.b dX6_doBake_13 ?_
  refine cgo_i cx hw (rSU_i (x := ⟨"BakeHouse$Leavened", "doBake", "(I)Z"⟩) (n := 1) (As := [.int (ht - 30)]) (rest := []) cx hw (c_X2_doBake l D G Q (sBeg 3 2 σ) i hn hd (ht - 30)) ⟨rfl, tw_357, tw_343, tw_187, tw_336, tw_5, tw_361, by decide, (sb_up_of (cx.ts _ tw_172) (cx.ts _ tw_273) (va_Nw.use rfl (cx.ev.2.2.2.2.1 _ (by decide +kernel))))⟩ ⟨by decide +kernel, rfl, hl.1, (Nat.le_of_ble_eq_true rfl), ⟨(Nat.le_of_ble_eq_true rfl), (Nat.le_of_ble_eq_true rfl)⟩, ⟨(Nat.le_of_ble_eq_true rfl), (Nat.le_of_ble_eq_true rfl)⟩, rfl, rfl⟩ rfl (kw_d (sBeg 3 2 σ) hn) (cls_d hd) dX6_doBake_14) (fun r u H locs hp hw => ?_)
  obtain ⟨h8, h9⟩ := hp
  have h8 := h8.symm
  have h9 := h9.symm
  subst h8
  subst h9
  exact ret_z (pB0 i (ht - 30) (sBeg 3 2 σ)) cx hw b01_nar ⟨rfl, rfl⟩ dX6_doBake_17 (Nat.le_of_ble_eq_true rfl) (Nat.le_of_ble_eq_true rfl)
set_option maxHeartbeats 4000000 in
set_option maxRecDepth 100000 in
theorem c_X9_doBake (l : Launch) (D : va_G) (G : Nat → Nat) (Q : Nat → ClassId) (σ : St) (i : Nat) (hn : i < s_n σ) (hd : s_k σ i < 8) (ht : Int32) : MI l yX9_doBake cX9_doBake 2 .boolean ({ frames := 2, cells := 0, slots := 0, locals := 43 }) D cls (tyl Q) [.ref (s_a σ i), .int ht] (kw G Q) (kw G Q σ) (fun r u => r = b01 (20 ≤ s_F (pB3 i ht σ) 7 i ∧ s_F (pB3 i ht σ) 7 i ≤ 60) ∧ u = pB3 i ht σ) 0 0 := by
  refine MI_of (by decide) (Nat.le_of_ble_eq_true rfl) ?_
  intro p e s m args below meth c A ls cx hw hl
  have hl : lv_has ls 2 [(0, .ref (s_a σ i)), (1, .int ht)] := hl
  refine lv_aload_n cx.x cx.b dX9_doBake_0 rfl (lv_at hl 0 rfl) ?_
  refine gt_f (v := .ref (G 1)) cx hw (13 + i) (kw_d σ hn) (cls_d hd) (inD_all _ hd) 0 (by decide) tw_127 ⟨rfl, rfl, Or.inr tw_128⟩ rfl dX9_doBake_1 ?_
  refine lv_iconst (v := 3) cx.x cx.b dX9_doBake_4 (by decide) ?_
  refine lv_iconst (v := 3) cx.x cx.b dX9_doBake_5 (by decide) ?_
  refine cgo_v cx hw (rV_v (q0 := 1) (n := 2) (As := [.int 3, .int 3]) (rest := []) cx hw (c_X0_begin l D G Q σ 3 3) (gd_V tw_305 tw_306 tw_307 tw_2 tw_308) rfl ⟨by decide +kernel, rfl, hl.1, (Nat.le_of_ble_eq_true rfl), ⟨(Nat.le_of_ble_eq_true rfl), (Nat.le_of_ble_eq_true rfl)⟩, ⟨(Nat.le_of_ble_eq_true rfl), (Nat.le_of_ble_eq_true rfl)⟩, rfl, rfl⟩ rfl (kw_b σ) rfl dX9_doBake_6) (fun u H locs hp hw => ?_)
  have hp := hp.symm
  subst hp
  refine lv_aload_n cx.x cx.b dX9_doBake_9 rfl (lv_at hl 0 rfl) ?_
  refine lv_iload_n cx.x cx.b dX9_doBake_10 rfl (lv_at hl 1 rfl) ?_
  refine cgo_i cx hw (rSU_i (x := ⟨"BakeHouse$Leavened", "doBake", "(I)Z"⟩) (n := 1) (As := [.int ht]) (rest := []) cx hw (c_X2_doBake l D G Q (sBeg 3 3 σ) i hn hd ht) ⟨rfl, tw_342, tw_343, tw_202, tw_336, tw_5, tw_361, by decide, (sb_up_of (cx.ts _ tw_172) (cx.ts _ tw_273) (va_Nw.use rfl (cx.ev.2.2.2.2.1 _ (by decide +kernel))))⟩ ⟨by decide +kernel, rfl, hl.1, (Nat.le_of_ble_eq_true rfl), ⟨(Nat.le_of_ble_eq_true rfl), (Nat.le_of_ble_eq_true rfl)⟩, ⟨(Nat.le_of_ble_eq_true rfl), (Nat.le_of_ble_eq_true rfl)⟩, rfl, rfl⟩ rfl (kw_d (sBeg 3 3 σ) hn) (cls_d hd) dX9_doBake_11) (fun r u H locs hp hw => ?_)
  obtain ⟨h8, h9⟩ := hp
  have h8 := h8.symm
  have h9 := h9.symm
  subst h8
  subst h9
  refine lv_if_eq (tgt := 30) cx.x cx.b dX9_doBake_14 (by decide) (fun hb14 => ?_) (fun hb14 => ?_)
  · refine lv_iconst (v := 0) cx.x cx.b dX9_doBake_30 (by decide) ?_
    exact ret_z (pB0 i ht (sBeg 3 3 σ)) cx hw rfl ⟨b01_0 (fun h => b01_eq0.mp hb14 h.1), rfl⟩ dX9_doBake_31 (Nat.le_of_ble_eq_true rfl) (Nat.le_of_ble_eq_true rfl)
  · refine lv_aload_n cx.x cx.b dX9_doBake_17 rfl (lv_at hl 0 rfl) ?_
    refine gt_f (v := .int (s_F (pB0 i ht (sBeg 3 3 σ)) 7 i)) cx hw (13 + i) (kw_d (pB0 i ht (sBeg 3 3 σ)) hn) (cls_d hd) (inD_all _ hd) 7 (by decide) tw_151 ⟨rfl, rfl, Or.inr tw_152⟩ rfl dX9_doBake_18 ?_
    refine lv_bipush (v := 60) cx.x cx.b dX9_doBake_21 (by decide) ?_
    refine lv_icmp_gt (tgt := 30) cx.x cx.b dX9_doBake_23 (by decide) (fun hb23 => ?_) (fun hb23 => ?_)
    · refine lv_iconst (v := 0) cx.x cx.b dX9_doBake_30 (by decide) ?_
      exact ret_z (pB0 i ht (sBeg 3 3 σ)) cx hw rfl ⟨b01_0 (fun h => Int32.not_le.mpr hb23 h.2), rfl⟩ dX9_doBake_31 (Nat.le_of_ble_eq_true rfl) (Nat.le_of_ble_eq_true rfl)
    · refine lv_iconst (v := 1) cx.x cx.b dX9_doBake_26 (by decide) ?_
      refine lv_goto (tgt := 31) cx.x cx.b dX9_doBake_27 (by decide) ?_
      exact ret_z (pB0 i ht (sBeg 3 3 σ)) cx hw rfl ⟨b01_1 ⟨Decidable.not_not.mp (fun h => hb14 (b01_eq0.mpr h)), Int32.not_lt.mp hb23⟩, rfl⟩ dX9_doBake_31 (Nat.le_of_ble_eq_true rfl) (Nat.le_of_ble_eq_true rfl)
set_option maxHeartbeats 4000000 in
set_option maxRecDepth 100000 in
theorem c_X8_doBake (l : Launch) (D : va_G) (G : Nat → Nat) (Q : Nat → ClassId) (σ : St) (i : Nat) (hn : i < s_n σ) (hd : s_k σ i < 8) (ht : Int32) : MI l yX8_doBake cX8_doBake 3 .boolean ({ frames := 3, cells := 0, slots := 0, locals := 64 }) D cls (tyl Q) [.ref (s_a σ i), .int ht] (kw G Q) (kw G Q σ) (fun r u => r = b01 (20 ≤ s_F (pB4 i ht σ) 7 i ∨ 5 < s_F (pB4 i ht σ) 6 i) ∧ u = pB4 i ht σ) 0 0 := by
  refine MI_of (by decide) (Nat.le_of_ble_eq_true rfl) ?_
  intro p e s m args below meth c A ls cx hw hl
  have hl : lv_has ls 3 [(0, .ref (s_a σ i)), (1, .int ht)] := hl
  refine lv_aload_n cx.x cx.b dX8_doBake_0 rfl (lv_at hl 0 rfl) ?_
  refine gt_f (v := .ref (G 1)) cx hw (13 + i) (kw_d σ hn) (cls_d hd) (inD_all _ hd) 0 (by decide) tw_123 ⟨rfl, rfl, Or.inr tw_124⟩ rfl dX8_doBake_1 ?_
  refine lv_iconst (v := 3) cx.x cx.b dX8_doBake_4 (by decide) ?_
  refine lv_iconst (v := 4) cx.x cx.b dX8_doBake_5 (by decide) ?_
  refine cgo_v cx hw (rV_v (q0 := 1) (n := 2) (As := [.int 3, .int 4]) (rest := []) cx hw (c_X0_begin l D G Q σ 3 4) (gd_V tw_320 tw_306 tw_307 tw_2 tw_308) rfl ⟨by decide +kernel, rfl, hl.1, (Nat.le_of_ble_eq_true rfl), ⟨(Nat.le_of_ble_eq_true rfl), (Nat.le_of_ble_eq_true rfl)⟩, ⟨(Nat.le_of_ble_eq_true rfl), (Nat.le_of_ble_eq_true rfl)⟩, rfl, rfl⟩ rfl (kw_b σ) rfl dX8_doBake_6) (fun u H locs hp hw => ?_)
  have hp := hp.symm
  subst hp
  refine lv_aload_n cx.x cx.b dX8_doBake_9 rfl (lv_at hl 0 rfl) ?_
  refine lv_iload_n cx.x cx.b dX8_doBake_10 rfl (lv_at hl 1 rfl) ?_
  refine cgo_i cx hw (rSU_i (x := ⟨"BakeHouse$Rye", "doBake", "(I)Z"⟩) (n := 1) (As := [.int ht]) (rest := []) cx hw (c_X6_doBake l D G Q (sBeg 3 4 σ) i hn hd ht) ⟨rfl, tw_353, tw_953, tw_217, tw_354, tw_7, tw_355, by decide, sb_up_rf⟩ ⟨by decide +kernel, rfl, hl.1, (Nat.le_of_ble_eq_true rfl), ⟨(Nat.le_of_ble_eq_true rfl), (Nat.le_of_ble_eq_true rfl)⟩, ⟨(Nat.le_of_ble_eq_true rfl), (Nat.le_of_ble_eq_true rfl)⟩, rfl, rfl⟩ rfl (kw_d (sBeg 3 4 σ) hn) (cls_d hd) dX8_doBake_11) (fun r u H locs hp hw => ?_)
  obtain ⟨h8, h9⟩ := hp
  have h8 := h8.symm
  have h9 := h9.symm
  subst h8
  subst h9
  refine lv_istore_n (lv' := [(2, .int (b01 (20 ≤ s_F (pB2 i ht (sBeg 3 4 σ)) 7 i))), (0, .ref (s_a σ i)), (1, .int ht)]) cx.x cx.b dX8_doBake_14 rfl hl (by decide) rfl (fun ls hl => ?_)
  refine lv_iload_n cx.x cx.b dX8_doBake_15 rfl (lv_at hl 0 rfl) ?_
  refine lv_if_ne (tgt := 27) cx.x cx.b dX8_doBake_16 (by decide) (fun hb16 => ?_) (fun hb16 => ?_)
  · refine lv_iconst (v := 1) cx.x cx.b dX8_doBake_27 (by decide) ?_
    refine lv_goto (tgt := 32) cx.x cx.b dX8_doBake_28 (by decide) ?_
    exact ret_z (pB2 i ht (sBeg 3 4 σ)) cx hw rfl ⟨b01_1 (Or.inl (Decidable.not_not.mp (fun h => hb16 (b01_eq0.mpr h)))), rfl⟩ dX8_doBake_32 (Nat.le_of_ble_eq_true rfl) (Nat.le_of_ble_eq_true rfl)
  · refine lv_aload_n cx.x cx.b dX8_doBake_19 rfl (lv_at hl 1 rfl) ?_
    refine gt_f (v := .int (s_F σ 6 i)) cx hw (13 + i) (kw_d (pB2 i ht (sBeg 3 4 σ)) hn) (cls_d hd) (inD_all _ hd) 6 (by decide) tw_145 ⟨rfl, rfl, Or.inr tw_146⟩ rfl dX8_doBake_20 ?_
    refine lv_iconst (v := 5) cx.x cx.b dX8_doBake_23 (by decide) ?_
    refine lv_icmp_le (tgt := 31) cx.x cx.b dX8_doBake_24 (by decide) (fun hb24 => ?_) (fun hb24 => ?_)
    · refine lv_iconst (v := 0) cx.x cx.b dX8_doBake_31 (by decide) ?_
      exact ret_z (pB2 i ht (sBeg 3 4 σ)) cx hw rfl ⟨b01_0 (fun h => h.elim (b01_eq0.mp hb16) (Int32.not_lt.mpr hb24)), rfl⟩ dX8_doBake_32 (Nat.le_of_ble_eq_true rfl) (Nat.le_of_ble_eq_true rfl)
    · refine lv_iconst (v := 1) cx.x cx.b dX8_doBake_27 (by decide) ?_
      refine lv_goto (tgt := 32) cx.x cx.b dX8_doBake_28 (by decide) ?_
      exact ret_z (pB2 i ht (sBeg 3 4 σ)) cx hw rfl ⟨b01_1 (Or.inr (Int32.not_le.mp hb24)), rfl⟩ dX8_doBake_32 (Nat.le_of_ble_eq_true rfl) (Nat.le_of_ble_eq_true rfl)
set_option maxHeartbeats 4000000 in
set_option maxRecDepth 100000 in
theorem c_X3_doBake (l : Launch) (D : va_G) (G : Nat → Nat) (Q : Nat → ClassId) (σ : St) (i : Nat) (hn : i < s_n σ) (hd : s_k σ i < 8) (ht : Int32) : MI l yX3_doBake cX3_doBake 2 .boolean ({ frames := 2, cells := 0, slots := 0, locals := 43 }) D cls (tyl Q) [.ref (s_a σ i), .int ht] (kw G Q) (kw G Q σ) (fun r u => r = b01 (20 ≤ s_F (pB6 i ht σ) 7 i) ∧ u = pB6 i ht σ) 0 0 := by
  refine MI_of (by decide) (Nat.le_of_ble_eq_true rfl) ?_
  intro p e s m args below meth c A ls cx hw hl
  have hl : lv_has ls 2 [(0, .ref (s_a σ i)), (1, .int ht)] := hl
  refine lv_aload_n cx.x cx.b dX3_doBake_0 rfl (lv_at hl 0 rfl) ?_
  refine gt_f (v := .ref (G 1)) cx hw (13 + i) (kw_d σ hn) (cls_d hd) (inD_all _ hd) 0 (by decide) tw_129 ⟨rfl, rfl, Or.inr tw_130⟩ rfl dX3_doBake_1 ?_
  refine lv_iconst (v := 3) cx.x cx.b dX3_doBake_4 (by decide) ?_
  refine lv_bipush (v := 6) cx.x cx.b dX3_doBake_5 (by decide) ?_
  refine cgo_v cx hw (rV_v (q0 := 1) (n := 2) (As := [.int 3, .int 6]) (rest := []) cx hw (c_X0_begin l D G Q σ 3 6) (gd_V tw_315 tw_306 tw_307 tw_2 tw_308) rfl ⟨by decide +kernel, rfl, hl.1, (Nat.le_of_ble_eq_true rfl), ⟨(Nat.le_of_ble_eq_true rfl), (Nat.le_of_ble_eq_true rfl)⟩, ⟨(Nat.le_of_ble_eq_true rfl), (Nat.le_of_ble_eq_true rfl)⟩, rfl, rfl⟩ rfl (kw_b σ) rfl dX3_doBake_7) (fun u H locs hp hw => ?_)
  have hp := hp.symm
  subst hp
  refine lv_aload_n cx.x cx.b dX3_doBake_10 rfl (lv_at hl 0 rfl) ?_
  refine lv_iconst (v := 2) cx.x cx.b dX3_doBake_11 (by decide) ?_
  refine lv_iload_n cx.x cx.b dX3_doBake_12 rfl (lv_at hl 1 rfl) ?_
  refine lv_imul cx.x cx.b dX3_doBake_13 ?_
  refine cgo_i cx hw (rSU_i (x := ⟨"BakeHouse$Dough", "doBake", "(I)Z"⟩) (n := 1) (As := [.int (2 * ht)]) (rest := []) cx hw (c_X2_doBake l D G Q (sBeg 3 6 σ) i hn hd (2 * ht)) ⟨rfl, tw_348, tw_338, tw_247, tw_336, tw_5, tw_361, by decide, sb_up_rf⟩ ⟨by decide +kernel, rfl, hl.1, (Nat.le_of_ble_eq_true rfl), ⟨(Nat.le_of_ble_eq_true rfl), (Nat.le_of_ble_eq_true rfl)⟩, ⟨(Nat.le_of_ble_eq_true rfl), (Nat.le_of_ble_eq_true rfl)⟩, rfl, rfl⟩ rfl (kw_d (sBeg 3 6 σ) hn) (cls_d hd) dX3_doBake_14) (fun r u H locs hp hw => ?_)
  obtain ⟨h8, h9⟩ := hp
  have h8 := h8.symm
  have h9 := h9.symm
  subst h8
  subst h9
  exact ret_z (pB0 i (2 * ht) (sBeg 3 6 σ)) cx hw b01_nar ⟨rfl, rfl⟩ dX3_doBake_17 (Nat.le_of_ble_eq_true rfl) (Nat.le_of_ble_eq_true rfl)
set_option maxHeartbeats 4000000 in
set_option maxRecDepth 100000 in
theorem c_X2_askWorth (l : Launch) (D : va_G) (G : Nat → Nat) (Q : Nat → ClassId) (σ : St) (i : Nat) (hn : i < s_n σ) (hd : s_k σ i < 8) : MI l yX2_askWorth cX2_askWorth 1 .int ({ frames := 1, cells := 0, slots := 0, locals := 22 }) D cls (tyl Q) [.ref (s_a σ i)] (kw G Q) (kw G Q σ) (fun r u => r = vW0 i σ ∧ u = sBeg 4 0 σ) 0 0 := by
  refine MI_of (by decide) (Nat.le_of_ble_eq_true rfl) ?_
  intro p e s m args below meth c A ls cx hw hl
  have hl : lv_has ls 1 [(0, .ref (s_a σ i))] := hl
  refine lv_aload_n cx.x cx.b dX2_askWorth_0 rfl (lv_at hl 0 rfl) ?_
  refine gt_f (v := .ref (G 1)) cx hw (13 + i) (kw_d σ hn) (cls_d hd) (inD_all _ hd) 0 (by decide) tw_118 ⟨rfl, rfl, Or.inl rfl⟩ rfl dX2_askWorth_1 ?_
  refine lv_iconst (v := 4) cx.x cx.b dX2_askWorth_4 (by decide) ?_
  refine lv_iconst (v := 0) cx.x cx.b dX2_askWorth_5 (by decide) ?_
  refine cgo_v cx hw (rV_v (q0 := 1) (n := 2) (As := [.int 4, .int 0]) (rest := []) cx hw (c_X0_begin l D G Q σ 4 0) (gd_V tw_330 tw_306 tw_307 tw_2 tw_308) rfl ⟨by decide +kernel, rfl, hl.1, (Nat.le_of_ble_eq_true rfl), ⟨(Nat.le_of_ble_eq_true rfl), (Nat.le_of_ble_eq_true rfl)⟩, ⟨(Nat.le_of_ble_eq_true rfl), (Nat.le_of_ble_eq_true rfl)⟩, rfl, rfl⟩ rfl (kw_b σ) rfl dX2_askWorth_6) (fun u H locs hp hw => ?_)
  have hp := hp.symm
  subst hp
  refine lv_aload_n cx.x cx.b dX2_askWorth_9 rfl (lv_at hl 0 rfl) ?_
  refine gt_f (v := .int (s_F σ 3 i)) cx hw (13 + i) (kw_d (sBeg 4 0 σ) hn) (cls_d hd) (inD_all _ hd) 3 (by decide) tw_134 ⟨rfl, rfl, Or.inl rfl⟩ rfl dX2_askWorth_10 ?_
  refine lv_bipush (v := 10) cx.x cx.b dX2_askWorth_13 (by decide) ?_
  refine lv_idiv cx.x cx.b dX2_askWorth_15 (by decide) ?_
  refine lv_iconst (v := 2) cx.x cx.b dX2_askWorth_16 (by decide) ?_
  refine lv_aload_n cx.x cx.b dX2_askWorth_17 rfl (lv_at hl 0 rfl) ?_
  refine gt_f (v := .int (s_F σ 5 i)) cx hw (13 + i) (kw_d (sBeg 4 0 σ) hn) (cls_d hd) (inD_all _ hd) 5 (by decide) tw_140 ⟨rfl, rfl, Or.inl rfl⟩ rfl dX2_askWorth_18 ?_
  refine lv_imul cx.x cx.b dX2_askWorth_21 ?_
  refine lv_iadd cx.x cx.b dX2_askWorth_22 ?_
  exact ret_i (sBeg 4 0 σ) cx hw ⟨rfl, rfl⟩ dX2_askWorth_23 (Nat.le_of_ble_eq_true rfl) (Nat.le_of_ble_eq_true rfl)
set_option maxHeartbeats 4000000 in
set_option maxRecDepth 100000 in
theorem c_X8_askWorth (l : Launch) (D : va_G) (G : Nat → Nat) (Q : Nat → ClassId) (σ : St) (i : Nat) (hn : i < s_n σ) (hd : s_k σ i < 8) : MI l yX8_askWorth cX8_askWorth 1 .int ({ frames := 2, cells := 0, slots := 0, locals := 42 }) D cls (tyl Q) [.ref (s_a σ i)] (kw G Q) (kw G Q σ) (fun r u => r = vW0 i σ + s_F σ 6 i ∧ u = pW4 σ) 0 0 := by
  refine MI_of (by decide) (Nat.le_of_ble_eq_true rfl) ?_
  intro p e s m args below meth c A ls cx hw hl
  have hl : lv_has ls 1 [(0, .ref (s_a σ i))] := hl
  refine lv_aload_n cx.x cx.b dX8_askWorth_0 rfl (lv_at hl 0 rfl) ?_
  refine gt_f (v := .ref (G 1)) cx hw (13 + i) (kw_d σ hn) (cls_d hd) (inD_all _ hd) 0 (by decide) tw_123 ⟨rfl, rfl, Or.inr tw_124⟩ rfl dX8_askWorth_1 ?_
  refine lv_iconst (v := 4) cx.x cx.b dX8_askWorth_4 (by decide) ?_
  refine lv_iconst (v := 4) cx.x cx.b dX8_askWorth_5 (by decide) ?_
  refine cgo_v cx hw (rV_v (q0 := 1) (n := 2) (As := [.int 4, .int 4]) (rest := []) cx hw (c_X0_begin l D G Q σ 4 4) (gd_V tw_320 tw_306 tw_307 tw_2 tw_308) rfl ⟨by decide +kernel, rfl, hl.1, (Nat.le_of_ble_eq_true rfl), ⟨(Nat.le_of_ble_eq_true rfl), (Nat.le_of_ble_eq_true rfl)⟩, ⟨(Nat.le_of_ble_eq_true rfl), (Nat.le_of_ble_eq_true rfl)⟩, rfl, rfl⟩ rfl (kw_b σ) rfl dX8_askWorth_6) (fun u H locs hp hw => ?_)
  have hp := hp.symm
  subst hp
  refine lv_aload_n cx.x cx.b dX8_askWorth_9 rfl (lv_at hl 0 rfl) ?_
  refine cgo_i cx hw (rSU_i (x := ⟨"BakeHouse$Rye", "askWorth", "()I"⟩) (n := 0) (As := []) (rest := []) cx hw (c_X2_askWorth l D G Q (sBeg 4 4 σ) i hn hd ) ⟨rfl, tw_724, tw_725, tw_217, tw_698, tw_5, tw_729, by decide, (sb_up_of (cx.ts _ tw_187) (cx.ts _ tw_273) (va_Nw.use rfl (cx.ev.2.2.2.2.1 _ (by decide +kernel))))⟩ ⟨by decide +kernel, rfl, hl.1, (Nat.le_of_ble_eq_true rfl), ⟨(Nat.le_of_ble_eq_true rfl), (Nat.le_of_ble_eq_true rfl)⟩, ⟨(Nat.le_of_ble_eq_true rfl), (Nat.le_of_ble_eq_true rfl)⟩, rfl, rfl⟩ rfl (kw_d (sBeg 4 4 σ) hn) (cls_d hd) dX8_askWorth_10) (fun r u H locs hp hw => ?_)
  obtain ⟨h8, h9⟩ := hp
  have h8 := h8.symm
  have h9 := h9.symm
  subst h8
  subst h9
  refine lv_aload_n cx.x cx.b dX8_askWorth_13 rfl (lv_at hl 0 rfl) ?_
  refine gt_f (v := .int (s_F σ 6 i)) cx hw (13 + i) (kw_d (sBeg 4 0 (sBeg 4 4 σ)) hn) (cls_d hd) (inD_all _ hd) 6 (by decide) tw_145 ⟨rfl, rfl, Or.inr tw_146⟩ rfl dX8_askWorth_14 ?_
  refine lv_iadd cx.x cx.b dX8_askWorth_17 ?_
  exact ret_i (sBeg 4 0 (sBeg 4 4 σ)) cx hw ⟨rfl, rfl⟩ dX8_askWorth_18 (Nat.le_of_ble_eq_true rfl) (Nat.le_of_ble_eq_true rfl)
set_option maxHeartbeats 4000000 in
set_option maxRecDepth 100000 in
theorem c_X1_askWorth (l : Launch) (D : va_G) (G : Nat → Nat) (Q : Nat → ClassId) (σ : St) (i : Nat) (hn : i < s_n σ) (hd : s_k σ i < 8) : MI l yX1_askWorth cX1_askWorth 1 .int ({ frames := 2, cells := 0, slots := 0, locals := 42 }) D cls (tyl Q) [.ref (s_a σ i)] (kw G Q) (kw G Q σ) (fun r u => r = 2 * vW0 i σ ∧ u = pW5 σ) 0 0 := by
  refine MI_of (by decide) (Nat.le_of_ble_eq_true rfl) ?_
  intro p e s m args below meth c A ls cx hw hl
  have hl : lv_has ls 1 [(0, .ref (s_a σ i))] := hl
  refine lv_aload_n cx.x cx.b dX1_askWorth_0 rfl (lv_at hl 0 rfl) ?_
  refine gt_f (v := .ref (G 1)) cx hw (13 + i) (kw_d σ hn) (cls_d hd) (inD_all _ hd) 0 (by decide) tw_119 ⟨rfl, rfl, Or.inr tw_120⟩ rfl dX1_askWorth_1 ?_
  refine lv_iconst (v := 4) cx.x cx.b dX1_askWorth_4 (by decide) ?_
  refine lv_iconst (v := 5) cx.x cx.b dX1_askWorth_5 (by decide) ?_
  refine cgo_v cx hw (rV_v (q0 := 1) (n := 2) (As := [.int 4, .int 5]) (rest := []) cx hw (c_X0_begin l D G Q σ 4 5) (gd_V tw_409 tw_306 tw_307 tw_2 tw_308) rfl ⟨by decide +kernel, rfl, hl.1, (Nat.le_of_ble_eq_true rfl), ⟨(Nat.le_of_ble_eq_true rfl), (Nat.le_of_ble_eq_true rfl)⟩, ⟨(Nat.le_of_ble_eq_true rfl), (Nat.le_of_ble_eq_true rfl)⟩, rfl, rfl⟩ rfl (kw_b σ) rfl dX1_askWorth_6) (fun u H locs hp hw => ?_)
  have hp := hp.symm
  subst hp
  refine lv_iconst (v := 2) cx.x cx.b dX1_askWorth_9 (by decide) ?_
  refine lv_aload_n cx.x cx.b dX1_askWorth_10 rfl (lv_at hl 0 rfl) ?_
  refine cgo_i cx hw (rSU_i (x := ⟨"BakeHouse$Sweet", "askWorth", "()I"⟩) (n := 0) (As := []) (rest := [.int 2]) cx hw (c_X2_askWorth l D G Q (sBeg 4 5 σ) i hn hd ) ⟨rfl, tw_704, tw_705, tw_232, tw_698, tw_5, tw_729, by decide, (sb_up_of (cx.ts _ tw_202) (cx.ts _ tw_273) (va_Nw.use rfl (cx.ev.2.2.2.2.1 _ (by decide +kernel))))⟩ ⟨by decide +kernel, rfl, hl.1, (Nat.le_of_ble_eq_true rfl), ⟨(Nat.le_of_ble_eq_true rfl), (Nat.le_of_ble_eq_true rfl)⟩, ⟨(Nat.le_of_ble_eq_true rfl), (Nat.le_of_ble_eq_true rfl)⟩, rfl, rfl⟩ rfl (kw_d (sBeg 4 5 σ) hn) (cls_d hd) dX1_askWorth_11) (fun r u H locs hp hw => ?_)
  obtain ⟨h8, h9⟩ := hp
  have h8 := h8.symm
  have h9 := h9.symm
  subst h8
  subst h9
  refine lv_imul cx.x cx.b dX1_askWorth_14 ?_
  exact ret_i (sBeg 4 0 (sBeg 4 5 σ)) cx hw ⟨rfl, rfl⟩ dX1_askWorth_15 (Nat.le_of_ble_eq_true rfl) (Nat.le_of_ble_eq_true rfl)
set_option maxHeartbeats 4000000 in
set_option maxRecDepth 100000 in
theorem c_X3_askWorth (l : Launch) (hl0 : l.stackTraces = false) (D : va_G) (G : Nat → Nat) (Q : Nat → ClassId) (σ : St) (i : Nat) (hn : i < s_n σ) (hd : s_k σ i < 8) : XI l yX3_askWorth cX3_askWorth 1 .int ({ frames := 6, cells := 1, slots := 6, locals := 90 }) D cls (tyl Q) [.ref (s_a σ i)] (kw G Q) (kw G Q σ) (fun r u => ¬ s_F σ 7 i = 0 ∧ r = 1000 / s_F σ 7 i ∧ u = sBeg 4 6 σ) (fun E u => s_F σ 7 i = 0 ∧ E = "java/lang/ArithmeticException" ∧ u = pW6f σ) 1 6 := by
  refine XI_of (by decide) (Nat.le_of_ble_eq_true rfl) ?_
  intro p e s m args below meth c A ls htab cx hw hl
  have hl : lv_has ls 1 [(0, .ref (s_a σ i))] := hl
  refine lv_aload_n cx.x cx.b dX3_askWorth_0 rfl (lv_at hl 0 rfl) ?_
  refine gt_f (v := .ref (G 1)) cx hw (13 + i) (kw_d σ hn) (cls_d hd) (inD_all _ hd) 0 (by decide) tw_129 ⟨rfl, rfl, Or.inr tw_130⟩ rfl dX3_askWorth_1 ?_
  refine lv_iconst (v := 4) cx.x cx.b dX3_askWorth_4 (by decide) ?_
  refine lv_bipush (v := 6) cx.x cx.b dX3_askWorth_5 (by decide) ?_
  refine cgo_v cx hw (rV_v (q0 := 1) (n := 2) (As := [.int 4, .int 6]) (rest := []) cx hw (c_X0_begin l D G Q σ 4 6) (gd_V tw_315 tw_306 tw_307 tw_2 tw_308) rfl ⟨by decide +kernel, rfl, hl.1, (Nat.le_of_ble_eq_true rfl), ⟨(Nat.le_of_ble_eq_true rfl), (Nat.le_of_ble_eq_true rfl)⟩, ⟨(Nat.le_of_ble_eq_true rfl), (Nat.le_of_ble_eq_true rfl)⟩, rfl, rfl⟩ rfl (kw_b σ) rfl dX3_askWorth_7) (fun u H locs hp hw => ?_)
  have hp := hp.symm
  subst hp
  refine lv_aload_n cx.x cx.b dX3_askWorth_10 rfl (lv_at hl 0 rfl) ?_
  refine gt_f (v := .int (s_F σ 7 i)) cx hw (13 + i) (kw_d (sBeg 4 6 σ) hn) (cls_d hd) (inD_all _ hd) 7 (by decide) tw_153 ⟨rfl, rfl, Or.inr tw_154⟩ rfl dX3_askWorth_11 ?_
  refine lv_if_ne (tgt := 40) cx.x cx.b dX3_askWorth_14 (by decide) (fun hb14 => ?_) (fun hb14 => ?_)
  · refine lv_sipush (v := 1000) cx.x cx.b dX3_askWorth_40 (by decide) ?_
    refine lv_aload_n cx.x cx.b dX3_askWorth_43 rfl (lv_at hl 0 rfl) ?_
    refine gt_f (v := .int (s_F σ 7 i)) cx hw (13 + i) (kw_d (sBeg 4 6 σ) hn) (cls_d hd) (inD_all _ hd) 7 (by decide) tw_153 ⟨rfl, rfl, Or.inr tw_154⟩ rfl dX3_askWorth_44 ?_
    refine lv_idiv cx.x cx.b dX3_askWorth_47 hb14 ?_
    exact xret_i (sBeg 4 6 σ) cx hw ⟨hb14, rfl, rfl⟩ dX3_askWorth_48 (Nat.le_of_ble_eq_true rfl) (Nat.le_of_ble_eq_true rfl)
  · refine lv_aload_n cx.x cx.b dX3_askWorth_17 rfl (lv_at hl 0 rfl) ?_
    refine gt_f (v := .ref (G 1)) cx hw (13 + i) (kw_d (sBeg 4 6 σ) hn) (cls_d hd) (inD_all _ hd) 0 (by decide) tw_129 ⟨rfl, rfl, Or.inr tw_130⟩ rfl dX3_askWorth_18 ?_
    refine lv_dup cx.x cx.b dX3_askWorth_21 rfl ?_
    refine gt_f (v := .int (s_c σ 6)) cx hw 1 (kw_b (sBeg 4 6 σ)) rfl inX0 6 (by decide) tw_50 ⟨rfl, rfl, Or.inl rfl⟩ rfl dX3_askWorth_22 ?_
    refine lv_iconst (v := 1) cx.x cx.b dX3_askWorth_25 (by decide) ?_
    refine lv_iadd cx.x cx.b dX3_askWorth_26 ?_
    refine pt_f cx hw 1 (kw_b (sBeg 4 6 σ)) rfl inX0 tyX0 tyX0_ok nmX0 6 (by decide) tw_50 ⟨rfl, rfl, Or.inl rfl⟩ rfl rfl rfl rfl (Nat.le_of_ble_eq_true rfl) dX3_askWorth_27 (w1 := kw G Q (sC 6 ((s_c σ 6) + 1) (sBeg 4 6 σ))) (kw_sC (by decide)) (fun H locs hw => ?_)
    exact thr_i (sC 6 ((s_c σ 6) + 1) (sBeg 4 6 σ)) hl0 htab cx hw (ok_ARI cx) hl.1 dX3_askWorth_30 dX3_askWorth_33 dX3_askWorth_34 dX3_askWorth_36 dX3_askWorth_39 ⟨(Nat.le_of_ble_eq_true rfl), (Nat.le_of_ble_eq_true rfl), (Nat.le_of_ble_eq_true rfl), (Nat.le_of_ble_eq_true rfl)⟩ ⟨hb14, rfl, rfl⟩ (Nat.le_of_ble_eq_true rfl) (Nat.le_of_ble_eq_true rfl)
set_option maxHeartbeats 4000000 in
set_option maxRecDepth 100000 in
theorem c_X5_askWorth (l : Launch) (D : va_G) (G : Nat → Nat) (Q : Nat → ClassId) (σ : St) (i : Nat) (hn : i < s_n σ) (hd : s_k σ i < 8) (h7 : s_k σ i = 7) : MI l yX5_askWorth cX5_askWorth 2 .int ({ frames := 3, cells := 0, slots := 0, locals := 62 }) D cls (tyl Q) [.ref (s_a σ i)] (kw G Q) (kw G Q σ) (fun r u => r = vW0 i σ + s_F σ 6 i + (if 20 ≤ s_F σ 7 i then 5 else 0) ∧ u = pW7 σ) 0 0 := by
  refine MI_of (by decide) (Nat.le_of_ble_eq_true rfl) ?_
  intro p e s m args below meth c A ls cx hw hl
  have hl : lv_has ls 2 [(0, .ref (s_a σ i))] := hl
  refine lv_aload_n cx.x cx.b dX5_askWorth_0 rfl (lv_at hl 0 rfl) ?_
  refine gt_f (v := .ref (G 1)) cx hw (13 + i) (kw_d σ hn) (cls_d hd) (inD_all _ hd) 0 (by decide) tw_121 ⟨rfl, rfl, Or.inr tw_122⟩ rfl dX5_askWorth_1 ?_
  refine lv_iconst (v := 4) cx.x cx.b dX5_askWorth_4 (by decide) ?_
  refine lv_bipush (v := 7) cx.x cx.b dX5_askWorth_5 (by decide) ?_
  refine cgo_v cx hw (rV_v (q0 := 1) (n := 2) (As := [.int 4, .int 7]) (rest := []) cx hw (c_X0_begin l D G Q σ 4 7) (gd_V tw_498 tw_306 tw_307 tw_2 tw_308) rfl ⟨by decide +kernel, rfl, hl.1, (Nat.le_of_ble_eq_true rfl), ⟨(Nat.le_of_ble_eq_true rfl), (Nat.le_of_ble_eq_true rfl)⟩, ⟨(Nat.le_of_ble_eq_true rfl), (Nat.le_of_ble_eq_true rfl)⟩, rfl, rfl⟩ rfl (kw_b σ) rfl dX5_askWorth_7) (fun u H locs hp hw => ?_)
  have hp := hp.symm
  subst hp
  refine lv_aload_n cx.x cx.b dX5_askWorth_10 rfl (lv_at hl 0 rfl) ?_
  refine cgo_i cx hw (rU_i (x := ⟨"BakeHouse$Levain", "isDoneByCrust", "()Z"⟩) (n := 0) (As := []) (rest := []) cx hw (c_X2_isDoneByCrust l D G Q (sBeg 4 7 σ) i hn hd) (cwu_idcL h7) ⟨by decide +kernel, rfl, hl.1, (Nat.le_of_ble_eq_true rfl), ⟨(Nat.le_of_ble_eq_true rfl), (Nat.le_of_ble_eq_true rfl)⟩, ⟨(Nat.le_of_ble_eq_true rfl), (Nat.le_of_ble_eq_true rfl)⟩, rfl, rfl⟩ rfl (kw_d (sBeg 4 7 σ) hn) (cls_d hd) dX5_askWorth_11) (fun r u H locs hp hw => ?_)
  obtain ⟨h8, h9⟩ := hp
  have h8 := h8.symm
  have h9 := h9.symm
  subst h8
  subst h9
  refine lv_if_eq (tgt := 21) cx.x cx.b dX5_askWorth_14 (by decide) (fun hb14 => ?_) (fun hb14 => ?_)
  · refine lv_iconst (v := 0) cx.x cx.b dX5_askWorth_21 (by decide) ?_
    refine lv_istore_n (lv' := [(1, .int 0), (0, .ref (s_a σ i))]) cx.x cx.b dX5_askWorth_22 rfl hl (by decide) rfl (fun ls hl => ?_)
    refine lv_aload_n cx.x cx.b dX5_askWorth_23 rfl (lv_at hl 1 rfl) ?_
    refine cgo_i cx hw (rSU_i (x := ⟨"BakeHouse$Sour", "askWorth", "()I"⟩) (n := 0) (As := []) (rest := []) cx hw (c_X8_askWorth l D G Q (sBeg 4 7 σ) i hn hd ) ⟨rfl, tw_721, tw_957, tw_262, tw_722, tw_9, tw_723, by decide, sb_up_rf⟩ ⟨by decide +kernel, rfl, hl.1, (Nat.le_of_ble_eq_true rfl), ⟨(Nat.le_of_ble_eq_true rfl), (Nat.le_of_ble_eq_true rfl)⟩, ⟨(Nat.le_of_ble_eq_true rfl), (Nat.le_of_ble_eq_true rfl)⟩, rfl, rfl⟩ rfl (kw_d (sBeg 4 7 σ) hn) (cls_d hd) dX5_askWorth_24) (fun r u H locs hp hw => ?_)
    obtain ⟨h8, h9⟩ := hp
    have h8 := h8.symm
    have h9 := h9.symm
    subst h8
    subst h9
    refine lv_iload_n cx.x cx.b dX5_askWorth_27 rfl (lv_at hl 0 rfl) ?_
    refine lv_iadd cx.x cx.b dX5_askWorth_28 ?_
    exact ret_i (pW4 (sBeg 4 7 σ)) cx hw ⟨by rw [if_neg (show ¬ 20 ≤ s_F σ 7 i from b01_eq0.mp hb14)]; rfl, rfl⟩ dX5_askWorth_29 (Nat.le_of_ble_eq_true rfl) (Nat.le_of_ble_eq_true rfl)
  · refine lv_iconst (v := 5) cx.x cx.b dX5_askWorth_17 (by decide) ?_
    refine lv_goto (tgt := 22) cx.x cx.b dX5_askWorth_18 (by decide) ?_
    refine lv_istore_n (lv' := [(1, .int 5), (0, .ref (s_a σ i))]) cx.x cx.b dX5_askWorth_22 rfl hl (by decide) rfl (fun ls hl => ?_)
    refine lv_aload_n cx.x cx.b dX5_askWorth_23 rfl (lv_at hl 1 rfl) ?_
    refine cgo_i cx hw (rSU_i (x := ⟨"BakeHouse$Sour", "askWorth", "()I"⟩) (n := 0) (As := []) (rest := []) cx hw (c_X8_askWorth l D G Q (sBeg 4 7 σ) i hn hd ) ⟨rfl, tw_721, tw_957, tw_262, tw_722, tw_9, tw_723, by decide, sb_up_rf⟩ ⟨by decide +kernel, rfl, hl.1, (Nat.le_of_ble_eq_true rfl), ⟨(Nat.le_of_ble_eq_true rfl), (Nat.le_of_ble_eq_true rfl)⟩, ⟨(Nat.le_of_ble_eq_true rfl), (Nat.le_of_ble_eq_true rfl)⟩, rfl, rfl⟩ rfl (kw_d (sBeg 4 7 σ) hn) (cls_d hd) dX5_askWorth_24) (fun r u H locs hp hw => ?_)
    obtain ⟨h8, h9⟩ := hp
    have h8 := h8.symm
    have h9 := h9.symm
    subst h8
    subst h9
    refine lv_iload_n cx.x cx.b dX5_askWorth_27 rfl (lv_at hl 0 rfl) ?_
    refine lv_iadd cx.x cx.b dX5_askWorth_28 ?_
    exact ret_i (pW4 (sBeg 4 7 σ)) cx hw ⟨by rw [if_pos (show 20 ≤ s_F σ 7 i from Decidable.not_not.mp (fun h => hb14 (b01_eq0.mpr h)))]; rfl, rfl⟩ dX5_askWorth_29 (Nat.le_of_ble_eq_true rfl) (Nat.le_of_ble_eq_true rfl)
