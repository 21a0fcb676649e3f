set_option maxHeartbeats 4000000 in
set_option maxRecDepth 100000 in
theorem c_L_shelf (l : Launch) (hl0 : l.stackTraces = false) (D : va_G) (G : Nat → Nat) (Q : Nat → ClassId) (σ : St) (fo : Nat → Int64) (ou : Nat) (a0 a1 : Int32) : MW l yL_shelf cL_shelf 5 .int [(0, 10, 13, 13)] ({ frames := 7, cells := 1, slots := 6, locals := 113 }) D cls (tyl Q) [.ref (G 0), .int a0, .int a1, .ref ou] (kwO G Q ou) (kwO G Q ou (σ, fo)) (okO (aShelf σ a0 a1)) 1 6 := by
  refine MW_of (by decide) (Nat.le_of_ble_eq_true rfl) ?_
  intro p e s m args below meth c A ls htab cx hw hl
  have hl : lv_has ls 5 [(0, .ref (G 0)), (1, .int a0), (2, .int a1), (3, .ref ou)] := hl
  refine lv_aload_n cx.x cx.b dL_shelf_0 rfl (lv_at hl 3 rfl) ?_
  refine lv_iconst (v := 0) cx.x cx.b dL_shelf_1 (by decide) ?_
  refine lv_aload_n cx.x cx.b dL_shelf_2 rfl (lv_at hl 0 rfl) ?_
  refine lv_iload_n cx.x cx.b dL_shelf_3 rfl (lv_at hl 1 rfl) ?_
  refine lv_iload_n cx.x cx.b dL_shelf_4 rfl (lv_at hl 2 rfl) ?_
  refine cgoF_xi cx hw (rV_xi (q0 := 0) (n := 2) (As := [.int a0, .int a1]) (rest := [.int 0, .ref ou]) cx hw.r (c_X10_shelf l hl0 D G Q σ a0 a1) (gd_V tw_558 tw_559 tw_560 tw_1 tw_561) rfl ⟨by decide +kernel, rfl, hl.1, (Nat.le_of_ble_eq_true rfl), ⟨(Nat.le_of_ble_eq_true rfl), (Nat.le_of_ble_eq_true rfl)⟩, ⟨(Nat.le_of_ble_eq_true rfl), (Nat.le_of_ble_eq_true rfl)⟩, rfl, rfl⟩ rfl (kw_h σ) rfl dL_shelf_5) (fun E ce q u H locs hp hw h1 h2 h3 => ?_) (fun r u H locs hp hw => ?_)
  · obtain ⟨⟨g1, rfl⟩, g3⟩ := hp
    refine ctch cx htab ⟨by decide, by decide⟩ (by decide) tw_539 (by decide +kernel) h1 h2 h3 ?_
    refine lv_astore (lv' := [(4, .ref q), (0, .ref (G 0)), (1, .int a0), (2, .int a1), (3, .ref ou)]) cx.x cx.b dL_shelf_13 hl (by decide) rfl (fun ls hl => ?_)
    refine lv_iconst (v := 1) cx.x cx.b dL_shelf_15 (by decide) ?_
    exact ret_i (u, fo) cx hw (okO_1 (w := 1) (by decide) g1 g3) dL_shelf_16 (Nat.le_of_ble_eq_true rfl) (Nat.le_of_ble_eq_true rfl)
  refine lv_i2l (v := (r).toInt64) cx.x cx.b dL_shelf_8 rfl ?_
  refine ast_l cx hw 0 3 rfl rfl 0 rfl (by decide) (by decide) dL_shelf_9 (w1 := kwO G Q ou (u, vp_updL fo 0 (r).toInt64)) rfl (fun H locs hw => ?_)
  refine lv_goto (tgt := 17) cx.x cx.b dL_shelf_10 (by decide) ?_
  refine lv_iconst (v := 0) cx.x cx.b dL_shelf_17 (by decide) ?_
  exact ret_i (u, vp_updL fo 0 (r).toInt64) cx hw (okO_0 hp) dL_shelf_18 (Nat.le_of_ble_eq_true rfl) (Nat.le_of_ble_eq_true rfl)
set_option maxHeartbeats 4000000 in
set_option maxRecDepth 100000 in
theorem c_L_rest (l : Launch) (hl0 : l.stackTraces = false) (D : va_G) (G : Nat → Nat) (Q : Nat → ClassId) (σ : St) (fo : Nat → Int64) (ou : Nat) {b : Nat} (hI : Inv b σ) (a0 a1 : Int32) : MW l yL_rest cL_rest 5 .int [(0, 10, 13, 18)] ({ frames := 17, cells := 1, slots := 6, locals := 623 }) D cls (tyl Q) [.ref (G 0), .int a0, .int a1, .ref ou] (kwO G Q ou) (kwO G Q ou (σ, fo)) (okO (aRest σ a0 a1)) 1 6 := by
  refine MW_of (by decide) (Nat.le_of_ble_eq_true rfl) ?_
  intro p e s m args below meth c A ls htab cx hw hl
  have hl : lv_has ls 5 [(0, .ref (G 0)), (1, .int a0), (2, .int a1), (3, .ref ou)] := hl
  refine lv_aload_n cx.x cx.b dL_rest_0 rfl (lv_at hl 3 rfl) ?_
  refine lv_iconst (v := 0) cx.x cx.b dL_rest_1 (by decide) ?_
  refine lv_aload_n cx.x cx.b dL_rest_2 rfl (lv_at hl 0 rfl) ?_
  refine lv_iload_n cx.x cx.b dL_rest_3 rfl (lv_at hl 1 rfl) ?_
  refine lv_iload_n cx.x cx.b dL_rest_4 rfl (lv_at hl 2 rfl) ?_
  refine cgoF_xi cx hw (rV_xi (q0 := 0) (n := 2) (As := [.int a0, .int a1]) (rest := [.int 0, .ref ou]) cx hw.r (c_X10_rest l hl0 D G Q σ hI a0 a1) (gd_V tw_573 tw_574 tw_575 tw_1 tw_576) rfl ⟨by decide +kernel, rfl, hl.1, (Nat.le_of_ble_eq_true rfl), ⟨(Nat.le_of_ble_eq_true rfl), (Nat.le_of_ble_eq_true rfl)⟩, ⟨(Nat.le_of_ble_eq_true rfl), (Nat.le_of_ble_eq_true rfl)⟩, rfl, rfl⟩ rfl (kw_h σ) rfl dL_rest_5) (fun E ce q u H locs hp hw h1 h2 h3 => ?_) (fun r u H locs hp hw => ?_)
  · obtain ⟨⟨g1, rfl⟩, g3⟩ := hp
    refine ctch cx htab ⟨by decide, by decide⟩ (by decide) tw_572 (by decide +kernel) h1 h2 h3 ?_
    refine lv_astore (lv' := [(4, .ref q), (0, .ref (G 0)), (1, .int a0), (2, .int a1), (3, .ref ou)]) cx.x cx.b dL_rest_13 hl (by decide) rfl (fun ls hl => ?_)
    refine lv_iconst (v := 1) cx.x cx.b dL_rest_15 (by decide) ?_
    exact ret_i (u, fo) cx hw (okO_1 (w := 1) (by decide) g1 g3) dL_rest_16 (Nat.le_of_ble_eq_true rfl) (Nat.le_of_ble_eq_true rfl)
  refine lv_i2l (v := (r).toInt64) cx.x cx.b dL_rest_8 rfl ?_
  refine ast_l cx hw 0 3 rfl rfl 0 rfl (by decide) (by decide) dL_rest_9 (w1 := kwO G Q ou (u, vp_updL fo 0 (r).toInt64)) rfl (fun H locs hw => ?_)
  refine lv_goto (tgt := 17) cx.x cx.b dL_rest_10 (by decide) ?_
  refine lv_iconst (v := 0) cx.x cx.b dL_rest_17 (by decide) ?_
  exact ret_i (u, vp_updL fo 0 (r).toInt64) cx hw (okO_0 hp) dL_rest_18 (Nat.le_of_ble_eq_true rfl) (Nat.le_of_ble_eq_true rfl)
set_option maxHeartbeats 4000000 in
set_option maxRecDepth 100000 in
theorem c_L_lay (l : Launch) (hl0 : l.stackTraces = false) (D : va_G) (G : Nat → Nat) (Q : Nat → ClassId) (σ : St) (fo : Nat → Int64) (ou : Nat) {b : Nat} (hI : Inv b σ) (a0 a1 a2 : Int32) : MW l yL_lay cL_lay 6 .int [(0, 12, 15, 24), (0, 12, 19, 26)] ({ frames := 17, cells := 2, slots := 16, locals := 625 }) D cls (tyl Q) [.ref (G 0), .int a0, .int a1, .int a2, .ref ou] (kwO G Q ou) (kwO G Q ou (σ, fo)) (okO (aLay σ a0 a1 a2)) 2 16 := by
  refine MW_of (by decide) (Nat.le_of_ble_eq_true rfl) ?_
  intro p e s m args below meth c A ls htab cx hw hl
  have hl : lv_has ls 6 [(0, .ref (G 0)), (1, .int a0), (2, .int a1), (3, .int a2), (4, .ref ou)] := hl
  refine lv_aload cx.x cx.b dL_lay_0 (lv_at hl 4 rfl) ?_
  refine lv_iconst (v := 0) cx.x cx.b dL_lay_2 (by decide) ?_
  refine lv_aload_n cx.x cx.b dL_lay_3 rfl (lv_at hl 0 rfl) ?_
  refine lv_iload_n cx.x cx.b dL_lay_4 rfl (lv_at hl 1 rfl) ?_
  refine lv_iload_n cx.x cx.b dL_lay_5 rfl (lv_at hl 2 rfl) ?_
  refine lv_iload_n cx.x cx.b dL_lay_6 rfl (lv_at hl 3 rfl) ?_
  refine cgoF_xi cx hw (rV_xi (q0 := 0) (n := 3) (As := [.int a0, .int a1, .int a2]) (rest := [.int 0, .ref ou]) cx hw.r (c_X10_lay l hl0 D G Q σ hI a0 a1 a2) (gd_V tw_625 tw_626 tw_627 tw_1 tw_628) rfl ⟨by decide +kernel, rfl, hl.1, (Nat.le_of_ble_eq_true rfl), ⟨(Nat.le_of_ble_eq_true rfl), (Nat.le_of_ble_eq_true rfl)⟩, ⟨(Nat.le_of_ble_eq_true rfl), (Nat.le_of_ble_eq_true rfl)⟩, rfl, rfl⟩ rfl (kw_h σ) rfl dL_lay_7) (fun E ce q u H locs hp hw h1 h2 h3 => ?_) (fun r u H locs hp hw => ?_)
  · obtain ⟨g0, g3⟩ := hp
    rcases g0 with ⟨g1, rfl⟩ | ⟨g1, rfl⟩
    · refine ctch cx htab ⟨by decide, by decide⟩ (by decide) tw_580 (by decide +kernel) h1 h2 h3 ?_
      refine lv_astore (lv' := [(5, .ref q), (0, .ref (G 0)), (1, .int a0), (2, .int a1), (3, .int a2), (4, .ref ou)]) cx.x cx.b dL_lay_15 hl (by decide) rfl (fun ls hl => ?_)
      refine lv_iconst (v := 1) cx.x cx.b dL_lay_17 (by decide) ?_
      exact ret_i (u, fo) cx hw (okO_1 (w := 1) (by decide) g1 g3) dL_lay_18 (Nat.le_of_ble_eq_true rfl) (Nat.le_of_ble_eq_true rfl)
    · refine ctch2 cx htab ⟨by decide, by decide⟩ (by decide) (by decide) tw_580 cx.ev.2.2.2.2.2.2.2 tw_606 (by decide +kernel) h1 h2 h3 ?_
      refine lv_astore (lv' := [(5, .ref q), (0, .ref (G 0)), (1, .int a0), (2, .int a1), (3, .int a2), (4, .ref ou)]) cx.x cx.b dL_lay_19 hl (by decide) rfl (fun ls hl => ?_)
      refine lv_iconst (v := 2) cx.x cx.b dL_lay_21 (by decide) ?_
      exact ret_i (u, fo) cx hw (okO_1 (w := 2) (by decide) g1 g3) dL_lay_22 (Nat.le_of_ble_eq_true rfl) (Nat.le_of_ble_eq_true rfl)
  refine lv_i2l (v := (r).toInt64) cx.x cx.b dL_lay_10 rfl ?_
  refine ast_l cx hw 0 3 rfl rfl 0 rfl (by decide) (by decide) dL_lay_11 (w1 := kwO G Q ou (u, vp_updL fo 0 (r).toInt64)) rfl (fun H locs hw => ?_)
  refine lv_goto (tgt := 23) cx.x cx.b dL_lay_12 (by decide) ?_
  refine lv_iconst (v := 0) cx.x cx.b dL_lay_23 (by decide) ?_
  exact ret_i (u, vp_updL fo 0 (r).toInt64) cx hw (okO_0 hp) dL_lay_24 (Nat.le_of_ble_eq_true rfl) (Nat.le_of_ble_eq_true rfl)
set_option maxHeartbeats 4000000 in
set_option maxRecDepth 100000 in
theorem c_L_worth (l : Launch) (hl0 : l.stackTraces = false) (D : va_G) (G : Nat → Nat) (Q : Nat → ClassId) (σ : St) (fo : Nat → Int64) (ou : Nat) {b : Nat} (hI : Inv b σ) (a0 : Int32) : MW l yL_worth cL_worth 4 .int [(0, 9, 12, 32)] ({ frames := 17, cells := 1, slots := 6, locals := 622 }) D cls (tyl Q) [.ref (G 0), .int a0, .ref ou] (kwO G Q ou) (kwO G Q ou (σ, fo)) (okO (aWorth σ a0)) 1 6 := by
  refine MW_of (by decide) (Nat.le_of_ble_eq_true rfl) ?_
  intro p e s m args below meth c A ls htab cx hw hl
  have hl : lv_has ls 4 [(0, .ref (G 0)), (1, .int a0), (2, .ref ou)] := hl
  refine lv_aload_n cx.x cx.b dL_worth_0 rfl (lv_at hl 2 rfl) ?_
  refine lv_iconst (v := 0) cx.x cx.b dL_worth_1 (by decide) ?_
  refine lv_aload_n cx.x cx.b dL_worth_2 rfl (lv_at hl 0 rfl) ?_
  refine lv_iload_n cx.x cx.b dL_worth_3 rfl (lv_at hl 1 rfl) ?_
  refine cgoF_xi cx hw (rV_xi (q0 := 0) (n := 1) (As := [.int a0]) (rest := [.int 0, .ref ou]) cx hw.r (c_X10_worth l hl0 D G Q σ hI a0) (gd_V tw_693 tw_694 tw_695 tw_1 tw_696) rfl ⟨by decide +kernel, rfl, hl.1, (Nat.le_of_ble_eq_true rfl), ⟨(Nat.le_of_ble_eq_true rfl), (Nat.le_of_ble_eq_true rfl)⟩, ⟨(Nat.le_of_ble_eq_true rfl), (Nat.le_of_ble_eq_true rfl)⟩, rfl, rfl⟩ rfl (kw_h σ) rfl dL_worth_4) (fun E ce q u H locs hp hw h1 h2 h3 => ?_) (fun r u H locs hp hw => ?_)
  · obtain ⟨⟨g1, rfl⟩, g3⟩ := hp
    refine ctch cx htab ⟨by decide, by decide⟩ (by decide) tw_679 (by decide +kernel) h1 h2 h3 ?_
    refine lv_astore_n (lv' := [(3, .ref q), (0, .ref (G 0)), (1, .int a0), (2, .ref ou)]) cx.x cx.b dL_worth_12 rfl hl (by decide) rfl (fun ls hl => ?_)
    refine lv_iconst (v := 1) cx.x cx.b dL_worth_13 (by decide) ?_
    exact ret_i (u, fo) cx hw (okO_1 (w := 1) (by decide) g1 g3) dL_worth_14 (Nat.le_of_ble_eq_true rfl) (Nat.le_of_ble_eq_true rfl)
  refine lv_i2l (v := (r).toInt64) cx.x cx.b dL_worth_7 rfl ?_
  refine ast_l cx hw 0 3 rfl rfl 0 rfl (by decide) (by decide) dL_worth_8 (w1 := kwO G Q ou (u, vp_updL fo 0 (r).toInt64)) rfl (fun H locs hw => ?_)
  refine lv_goto (tgt := 15) cx.x cx.b dL_worth_9 (by decide) ?_
  refine lv_iconst (v := 0) cx.x cx.b dL_worth_15 (by decide) ?_
  exact ret_i (u, vp_updL fo 0 (r).toInt64) cx hw (okO_0 hp) dL_worth_16 (Nat.le_of_ble_eq_true rfl) (Nat.le_of_ble_eq_true rfl)
set_option maxHeartbeats 4000000 in
set_option maxRecDepth 100000 in
theorem c_L_cost (l : Launch) (hl0 : l.stackTraces = false) (D : va_G) (G : Nat → Nat) (Q : Nat → ClassId) (σ : St) (fo : Nat → Int64) (ou : Nat) {b : Nat} (hI : Inv b σ) (a0 : Int32) : MW l yL_cost cL_cost 4 .int [(0, 9, 12, 32)] ({ frames := 18, cells := 1, slots := 6, locals := 643 }) D cls (tyl Q) [.ref (G 0), .int a0, .ref ou] (kwO G Q ou) (kwO G Q ou (σ, fo)) (okO (aCost σ a0)) 1 6 := by
  refine MW_of (by decide) (Nat.le_of_ble_eq_true rfl) ?_
  intro p e s m args below meth c A ls htab cx hw hl
  have hl : lv_has ls 4 [(0, .ref (G 0)), (1, .int a0), (2, .ref ou)] := hl
  refine lv_aload_n cx.x cx.b dL_cost_0 rfl (lv_at hl 2 rfl) ?_
  refine lv_iconst (v := 0) cx.x cx.b dL_cost_1 (by decide) ?_
  refine lv_aload_n cx.x cx.b dL_cost_2 rfl (lv_at hl 0 rfl) ?_
  refine lv_iload_n cx.x cx.b dL_cost_3 rfl (lv_at hl 1 rfl) ?_
  refine cgoF_xi cx hw (rV_xi (q0 := 0) (n := 1) (As := [.int a0]) (rest := [.int 0, .ref ou]) cx hw.r (c_X10_cost l hl0 D G Q σ hI a0) (gd_V tw_733 tw_734 tw_735 tw_1 tw_736) rfl ⟨by decide +kernel, rfl, hl.1, (Nat.le_of_ble_eq_true rfl), ⟨(Nat.le_of_ble_eq_true rfl), (Nat.le_of_ble_eq_true rfl)⟩, ⟨(Nat.le_of_ble_eq_true rfl), (Nat.le_of_ble_eq_true rfl)⟩, rfl, rfl⟩ rfl (kw_h σ) rfl dL_cost_4) (fun E ce q u H locs hp hw h1 h2 h3 => ?_) (fun r u H locs hp hw => ?_)
  · obtain ⟨⟨g1, rfl⟩, g3⟩ := hp
    refine ctch cx htab ⟨by decide, by decide⟩ (by decide) tw_679 (by decide +kernel) h1 h2 h3 ?_
    refine lv_astore_n (lv' := [(3, .ref q), (0, .ref (G 0)), (1, .int a0), (2, .ref ou)]) cx.x cx.b dL_cost_12 rfl hl (by decide) rfl (fun ls hl => ?_)
    refine lv_iconst (v := 1) cx.x cx.b dL_cost_13 (by decide) ?_
    exact ret_i (u, fo) cx hw (okO_1 (w := 1) (by decide) g1 g3) dL_cost_14 (Nat.le_of_ble_eq_true rfl) (Nat.le_of_ble_eq_true rfl)
  refine lv_i2l (v := (r).toInt64) cx.x cx.b dL_cost_7 rfl ?_
  refine ast_l cx hw 0 3 rfl rfl 0 rfl (by decide) (by decide) dL_cost_8 (w1 := kwO G Q ou (u, vp_updL fo 0 (r).toInt64)) rfl (fun H locs hw => ?_)
  refine lv_goto (tgt := 15) cx.x cx.b dL_cost_9 (by decide) ?_
  refine lv_iconst (v := 0) cx.x cx.b dL_cost_15 (by decide) ?_
  exact ret_i (u, vp_updL fo 0 (r).toInt64) cx hw (okO_0 hp) dL_cost_16 (Nat.le_of_ble_eq_true rfl) (Nat.le_of_ble_eq_true rfl)
set_option maxHeartbeats 4000000 in
set_option maxRecDepth 100000 in
theorem c_L_change (l : Launch) (hl0 : l.stackTraces = false) (D : va_G) (G : Nat → Nat) (Q : Nat → ClassId) (σ : St) (fo : Nat → Int64) (ou : Nat) {b : Nat} (hI : Inv b σ) (a0 a1 : Int32) : MW l yL_change cL_change 5 .int [(0, 10, 13, 32)] ({ frames := 18, cells := 1, slots := 6, locals := 645 }) D cls (tyl Q) [.ref (G 0), .int a0, .int a1, .ref ou] (kwO G Q ou) (kwO G Q ou (σ, fo)) (okO (aChange σ a0 a1)) 1 6 := by
  refine MW_of (by decide) (Nat.le_of_ble_eq_true rfl) ?_
  intro p e s m args below meth c A ls htab cx hw hl
  have hl : lv_has ls 5 [(0, .ref (G 0)), (1, .int a0), (2, .int a1), (3, .ref ou)] := hl
  refine lv_aload_n cx.x cx.b dL_change_0 rfl (lv_at hl 3 rfl) ?_
  refine lv_iconst (v := 0) cx.x cx.b dL_change_1 (by decide) ?_
  refine lv_aload_n cx.x cx.b dL_change_2 rfl (lv_at hl 0 rfl) ?_
  refine lv_iload_n cx.x cx.b dL_change_3 rfl (lv_at hl 1 rfl) ?_
  refine lv_iload_n cx.x cx.b dL_change_4 rfl (lv_at hl 2 rfl) ?_
  refine cgoF_xi cx hw (rV_xi (q0 := 0) (n := 2) (As := [.int a0, .int a1]) (rest := [.int 0, .ref ou]) cx hw.r (c_X10_change l hl0 D G Q σ hI a0 a1) (gd_V tw_746 tw_747 tw_748 tw_1 tw_749) rfl ⟨by decide +kernel, rfl, hl.1, (Nat.le_of_ble_eq_true rfl), ⟨(Nat.le_of_ble_eq_true rfl), (Nat.le_of_ble_eq_true rfl)⟩, ⟨(Nat.le_of_ble_eq_true rfl), (Nat.le_of_ble_eq_true rfl)⟩, rfl, rfl⟩ rfl (kw_h σ) rfl dL_change_5) (fun E ce q u H locs hp hw h1 h2 h3 => ?_) (fun r u H locs hp hw => ?_)
  · obtain ⟨⟨g1, rfl⟩, g3⟩ := hp
    refine ctch cx htab ⟨by decide, by decide⟩ (by decide) tw_679 (by decide +kernel) h1 h2 h3 ?_
    refine lv_astore (lv' := [(4, .ref q), (0, .ref (G 0)), (1, .int a0), (2, .int a1), (3, .ref ou)]) cx.x cx.b dL_change_13 hl (by decide) rfl (fun ls hl => ?_)
    refine lv_iconst (v := 1) cx.x cx.b dL_change_15 (by decide) ?_
    exact ret_i (u, fo) cx hw (okO_1 (w := 1) (by decide) g1 g3) dL_change_16 (Nat.le_of_ble_eq_true rfl) (Nat.le_of_ble_eq_true rfl)
  refine lv_i2l (v := (r).toInt64) cx.x cx.b dL_change_8 rfl ?_
  refine ast_l cx hw 0 3 rfl rfl 0 rfl (by decide) (by decide) dL_change_9 (w1 := kwO G Q ou (u, vp_updL fo 0 (r).toInt64)) rfl (fun H locs hw => ?_)
  refine lv_goto (tgt := 17) cx.x cx.b dL_change_10 (by decide) ?_
  refine lv_iconst (v := 0) cx.x cx.b dL_change_17 (by decide) ?_
  exact ret_i (u, vp_updL fo 0 (r).toInt64) cx hw (okO_0 hp) dL_change_18 (Nat.le_of_ble_eq_true rfl) (Nat.le_of_ble_eq_true rfl)
