set_option maxHeartbeats 4000000 in
set_option maxRecDepth 100000 in
theorem c_X11_within (l : Launch) (D : va_G) (M : Nat → Nat) (Q : Nat → ClassId) (σ : St) (th fl dv : Int32) (v a b : Int32) : MI l yX11_within cX11_within 3 .boolean ({ frames := 0, cells := 0, slots := 0, locals := 0 }) D cls (tyl Q) [.int v, .int a, .int b] (mw M Q) (mw M Q (σ, th, fl, dv)) (fun r u => r = wth v a b ∧ u = (σ, th, fl, dv)) 0 0 := by
  refine MI_of (by decide) (Nat.le_of_ble_eq_true rfl) ?_
  intro p e s m args below meth c A ls cx hw hl
  have hl : lv_has ls 3 [(0, .int v), (1, .int a), (2, .int b)] := hl
  refine lv_iload_n cx.x cx.b dX11_within_0 rfl (lv_at hl 0 rfl) ?_
  refine lv_iload_n cx.x cx.b dX11_within_1 rfl (lv_at hl 1 rfl) ?_
  refine lv_icmp_lt (tgt := 14) cx.x cx.b dX11_within_2 (by decide) (fun hb2 => ?_) (fun hb2 => ?_)
  · refine lv_iconst (v := 0) cx.x cx.b dX11_within_14 (by decide) ?_
    exact ret_z (σ, th, fl, dv) cx hw rfl ⟨wth_0a (Int32.not_le.mpr hb2), rfl⟩ dX11_within_15 (Nat.le_of_ble_eq_true rfl) (Nat.le_of_ble_eq_true rfl)
  · refine lv_iload_n cx.x cx.b dX11_within_5 rfl (lv_at hl 0 rfl) ?_
    refine lv_iload_n cx.x cx.b dX11_within_6 rfl (lv_at hl 2 rfl) ?_
    refine lv_icmp_gt (tgt := 14) cx.x cx.b dX11_within_7 (by decide) (fun hb7 => ?_) (fun hb7 => ?_)
    · refine lv_iconst (v := 0) cx.x cx.b dX11_within_14 (by decide) ?_
      exact ret_z (σ, th, fl, dv) cx hw rfl ⟨wth_0b (Int32.not_le.mpr hb7), rfl⟩ dX11_within_15 (Nat.le_of_ble_eq_true rfl) (Nat.le_of_ble_eq_true rfl)
    · refine lv_iconst (v := 1) cx.x cx.b dX11_within_10 (by decide) ?_
      refine lv_goto (tgt := 15) cx.x cx.b dX11_within_11 (by decide) ?_
      exact ret_z (σ, th, fl, dv) cx hw rfl ⟨wth_1 (Int32.not_lt.mp hb2) (Int32.not_lt.mp hb7), rfl⟩ dX11_within_15 (Nat.le_of_ble_eq_true rfl) (Nat.le_of_ble_eq_true rfl)
set_option maxHeartbeats 4000000 in
set_option maxRecDepth 100000 in
theorem c_X11_begin (l : Launch) (D : va_G) (M : Nat → Nat) (Q : Nat → ClassId) (σ : St) (th fl dv : Int32) (hb : s_N σ < 2 ^ 30) (a k : Int32) : MV l yX11_begin cX11_begin 3 ({ frames := 0, cells := 0, slots := 0, locals := 0 }) D cls (tyl Q) [.ref (M 0), .int a, .int k] (mw M Q) (mw M Q (σ, th, fl, dv)) (fun u => u = (sBeg a k σ, th, fl, dv)) 0 0 := by
  refine MV_of (by decide) (Nat.le_of_ble_eq_true rfl) ?_
  intro p e s m args below meth c A ls cx hw hl
  have hl : lv_has ls 3 [(0, .ref (M 0)), (1, .int a), (2, .int k)] := hl
  refine lv_aload_n cx.x cx.b dX11_begin_0 rfl (lv_at hl 0 rfl) ?_
  refine gt_f (v := .ref (M 9)) cx hw 0 (mw_h σ th fl dv) rfl inX11 10 (by decide) tw_767 ⟨rfl, rfl, Or.inl rfl⟩ rfl dX11_begin_1 ?_
  refine lv_aload_n cx.x cx.b dX11_begin_4 rfl (lv_at hl 0 rfl) ?_
  refine gt_f (v := .int (nI (s_N σ))) cx hw 0 (mw_h σ th fl dv) rfl inX11 11 (by decide) tw_768 ⟨rfl, rfl, Or.inl rfl⟩ rfl dX11_begin_5 ?_
  refine lv_bipush (v := 100) cx.x cx.b dX11_begin_8 (by decide) ?_
  refine lv_irem cx.x cx.b dX11_begin_10 (by decide) ?_
  refine lv_bipush (v := 10) cx.x cx.b dX11_begin_11 (by decide) ?_
  refine lv_iload_n cx.x cx.b dX11_begin_13 rfl (lv_at hl 1 rfl) ?_
  refine lv_imul cx.x cx.b dX11_begin_14 ?_
  refine lv_iload_n cx.x cx.b dX11_begin_15 rfl (lv_at hl 2 rfl) ?_
  refine lv_iadd cx.x cx.b dX11_begin_16 ?_
  refine ast_i (f := (s_g σ)) cx hw 9 0 rfl rfl (s_N σ % 100) (rem100 hb) (Nat.mod_lt _ (by decide)) (by decide) dX11_begin_17 (w1 := mw M Q (sG (s_N σ % 100) ((10 * a) + k) σ, th, fl, dv)) mw_a9 (fun H locs hw => ?_)
  refine lv_aload_n cx.x cx.b dX11_begin_18 rfl (lv_at hl 0 rfl) ?_
  refine lv_dup cx.x cx.b dX11_begin_19 rfl ?_
  refine gt_f (v := .int (nI (s_N (sG (s_N σ % 100) ((10 * a) + k) σ)))) cx hw 0 (mw_h (sG (s_N σ % 100) ((10 * a) + k) σ) th fl dv) rfl inX11 11 (by decide) tw_768 ⟨rfl, rfl, Or.inl rfl⟩ rfl dX11_begin_20 ?_
  refine lv_iconst (v := 1) cx.x cx.b dX11_begin_23 (by decide) ?_
  refine lv_iadd cx.x cx.b dX11_begin_24 ?_
  refine pt_f cx hw 0 (mw_h (sG (s_N σ % 100) ((10 * a) + k) σ) th fl dv) rfl inX11 tyX11 tyX11_ok nmX11 11 (by decide) tw_768 ⟨rfl, rfl, Or.inl rfl⟩ rfl rfl rfl rfl (Nat.le_of_ble_eq_true rfl) dX11_begin_25 (w1 := mw M Q (sN1 (sG (s_N σ % 100) ((10 * a) + k) σ), th, fl, dv)) (mw_p11 (v := 0)) (fun H locs hw => ?_)
  exact ret_v (sN1 (sG (s_N σ % 100) ((10 * a) + k) σ), th, fl, dv) cx hw rfl dX11_begin_28 (Nat.le_of_ble_eq_true rfl) (Nat.le_of_ble_eq_true rfl)
set_option maxHeartbeats 4000000 in
set_option maxRecDepth 100000 in
theorem c_X11_plainRest (l : Launch) (D : va_G) (M : Nat → Nat) (Q : Nat → ClassId) (σ : St) (th fl dv : Int32) (i : Nat) (hi : i < 20) (hb : s_N σ + 1 < 2 ^ 30) (mi : Int32) : MV l yX11_plainRest cX11_plainRest 3 ({ frames := 1, cells := 0, slots := 0, locals := 22 }) D cls (tyl Q) [.ref (M 0), .int (nI i), .int mi] (mw M Q) (mw M Q (σ, th, fl, dv)) (fun u => u = (pR0 i mi σ, th, fl, dv)) 0 0 := by
  refine MV_of (by decide) (Nat.le_of_ble_eq_true rfl) ?_
  intro p e s m args below meth c A ls cx hw hl
  have hl : lv_has ls 3 [(0, .ref (M 0)), (1, .int (nI i)), (2, .int mi)] := hl
  refine lv_aload_n cx.x cx.b dX11_plainRest_0 rfl (lv_at hl 0 rfl) ?_
  refine lv_iconst (v := 0) cx.x cx.b dX11_plainRest_1 (by decide) ?_
  refine lv_iconst (v := 0) cx.x cx.b dX11_plainRest_2 (by decide) ?_
  refine cgo_v cx hw (rV_v (q0 := 0) (n := 2) (As := [.int 0, .int 0]) (rest := []) cx hw (c_X11_begin l D M Q σ th fl dv (by show s_N σ < 2 ^ 30; omega) 0 0) (gd_V tw_847 tw_849 ts_10 tw_4 tw_850) rfl ⟨by decide +kernel, rfl, hl.1, (Nat.le_of_ble_eq_true rfl), ⟨(Nat.le_of_ble_eq_true rfl), (Nat.le_of_ble_eq_true rfl)⟩, ⟨(Nat.le_of_ble_eq_true rfl), (Nat.le_of_ble_eq_true rfl)⟩, rfl, rfl⟩ rfl (mw_h σ th fl dv) rfl dX11_plainRest_3) (fun u H locs hp hw => ?_)
  have hp := hp.symm
  subst hp
  refine lv_aload_n cx.x cx.b dX11_plainRest_6 rfl (lv_at hl 0 rfl) ?_
  refine gt_f (v := .ref (M 3)) cx hw 0 (mw_h (sBeg 0 0 σ) th fl dv) rfl inX11 4 (by decide) tw_761 ⟨rfl, rfl, Or.inl rfl⟩ rfl dX11_plainRest_7 ?_
  refine lv_iload_n cx.x cx.b dX11_plainRest_10 rfl (lv_at hl 1 rfl) ?_
  refine lv_aload_n cx.x cx.b dX11_plainRest_11 rfl (lv_at hl 0 rfl) ?_
  refine gt_f (v := .ref (M 3)) cx hw 0 (mw_h (sBeg 0 0 σ) th fl dv) rfl inX11 4 (by decide) tw_761 ⟨rfl, rfl, Or.inl rfl⟩ rfl dX11_plainRest_12 ?_
  refine lv_iload_n cx.x cx.b dX11_plainRest_15 rfl (lv_at hl 1 rfl) ?_
  refine ald_i (f := (s_F σ 4)) cx hw 3 0 rfl rfl i rfl hi (by decide) dX11_plainRest_16 ?_
  refine lv_iload_n cx.x cx.b dX11_plainRest_17 rfl (lv_at hl 2 rfl) ?_
  refine lv_bipush (v := 6) cx.x cx.b dX11_plainRest_18 (by decide) ?_
  refine lv_idiv cx.x cx.b dX11_plainRest_20 (by decide) ?_
  refine lv_iadd cx.x cx.b dX11_plainRest_21 ?_
  refine lv_bipush (v := 100) cx.x cx.b dX11_plainRest_22 (by decide) ?_
  refine lv_icmp_le (tgt := 32) cx.x cx.b dX11_plainRest_24 (by decide) (fun hb24 => ?_) (fun hb24 => ?_)
  · refine lv_aload_n cx.x cx.b dX11_plainRest_32 rfl (lv_at hl 0 rfl) ?_
    refine gt_f (v := .ref (M 3)) cx hw 0 (mw_h (sBeg 0 0 σ) th fl dv) rfl inX11 4 (by decide) tw_761 ⟨rfl, rfl, Or.inl rfl⟩ rfl dX11_plainRest_33 ?_
    refine lv_iload_n cx.x cx.b dX11_plainRest_36 rfl (lv_at hl 1 rfl) ?_
    refine ald_i (f := (s_F σ 4)) cx hw 3 0 rfl rfl i rfl hi (by decide) dX11_plainRest_37 ?_
    refine lv_iload_n cx.x cx.b dX11_plainRest_38 rfl (lv_at hl 2 rfl) ?_
    refine lv_bipush (v := 6) cx.x cx.b dX11_plainRest_39 (by decide) ?_
    refine lv_idiv cx.x cx.b dX11_plainRest_41 (by decide) ?_
    refine lv_iadd cx.x cx.b dX11_plainRest_42 ?_
    refine ast_i (f := (s_F σ 4)) cx hw 3 0 rfl rfl i rfl hi (by decide) dX11_plainRest_43 (w1 := mw M Q (sF 4 i ((s_F σ 4 i) + (mi / 6)) (sBeg 0 0 σ), th, fl, dv)) mw_a3 (fun H locs hw => ?_)
    exact ret_v (sF 4 i ((s_F σ 4 i) + (mi / 6)) (sBeg 0 0 σ), th, fl, dv) cx hw (by unfold pR0; rw [← m100_le hb24]) dX11_plainRest_44 (Nat.le_of_ble_eq_true rfl) (Nat.le_of_ble_eq_true rfl)
  · refine lv_bipush (v := 100) cx.x cx.b dX11_plainRest_27 (by decide) ?_
    refine lv_goto (tgt := 43) cx.x cx.b dX11_plainRest_29 (by decide) ?_
    refine ast_i (f := (s_F σ 4)) cx hw 3 0 rfl rfl i rfl hi (by decide) dX11_plainRest_43 (w1 := mw M Q (sF 4 i 100 (sBeg 0 0 σ), th, fl, dv)) mw_a3 (fun H locs hw => ?_)
    exact ret_v (sF 4 i 100 (sBeg 0 0 σ), th, fl, dv) cx hw (by unfold pR0; rw [← m100_gt hb24]) dX11_plainRest_44 (Nat.le_of_ble_eq_true rfl) (Nat.le_of_ble_eq_true rfl)
set_option maxHeartbeats 4000000 in
set_option maxRecDepth 100000 in
theorem c_X11_ryeRest (l : Launch) (D : va_G) (M : Nat → Nat) (Q : Nat → ClassId) (σ : St) (th fl dv : Int32) (i : Nat) (hi : i < 20) (hb : s_N σ + 2 < 2 ^ 30) (mi : Int32) : MV l yX11_ryeRest cX11_ryeRest 3 ({ frames := 2, cells := 0, slots := 0, locals := 44 }) D cls (tyl Q) [.ref (M 0), .int (nI i), .int mi] (mw M Q) (mw M Q (σ, th, fl, dv)) (fun u => u = (pR2 i mi σ, th, fl, dv)) 0 0 := by
  refine MV_of (by decide) (Nat.le_of_ble_eq_true rfl) ?_
  intro p e s m args below meth c A ls cx hw hl
  have hl : lv_has ls 3 [(0, .ref (M 0)), (1, .int (nI i)), (2, .int mi)] := hl
  refine lv_aload_n cx.x cx.b dX11_ryeRest_0 rfl (lv_at hl 0 rfl) ?_
  refine lv_iconst (v := 0) cx.x cx.b dX11_ryeRest_1 (by decide) ?_
  refine lv_iconst (v := 2) cx.x cx.b dX11_ryeRest_2 (by decide) ?_
  refine cgo_v cx hw (rV_v (q0 := 0) (n := 2) (As := [.int 0, .int 2]) (rest := []) cx hw (c_X11_begin l D M Q σ th fl dv (by show s_N σ < 2 ^ 30; omega) 0 2) (gd_V tw_847 tw_849 ts_10 tw_4 tw_850) rfl ⟨by decide +kernel, rfl, hl.1, (Nat.le_of_ble_eq_true rfl), ⟨(Nat.le_of_ble_eq_true rfl), (Nat.le_of_ble_eq_true rfl)⟩, ⟨(Nat.le_of_ble_eq_true rfl), (Nat.le_of_ble_eq_true rfl)⟩, rfl, rfl⟩ rfl (mw_h σ th fl dv) rfl dX11_ryeRest_3) (fun u H locs hp hw => ?_)
  have hp := hp.symm
  subst hp
  refine lv_aload_n cx.x cx.b dX11_ryeRest_6 rfl (lv_at hl 0 rfl) ?_
  refine lv_iload_n cx.x cx.b dX11_ryeRest_7 rfl (lv_at hl 1 rfl) ?_
  refine lv_iload_n cx.x cx.b dX11_ryeRest_8 rfl (lv_at hl 2 rfl) ?_
  refine lv_iconst (v := 2) cx.x cx.b dX11_ryeRest_9 (by decide) ?_
  refine lv_idiv cx.x cx.b dX11_ryeRest_10 (by decide) ?_
  refine cgo_v cx hw (rV_v (q0 := 0) (n := 2) (As := [.int (nI i), .int (mi / 2)]) (rest := []) cx hw (c_X11_plainRest l D M Q (sBeg 0 2 σ) th fl dv i hi (by show s_N σ + 1 + 1 < 2 ^ 30; omega) (mi / 2)) (gd_V tw_851 tw_853 ts_11 tw_4 tw_854) rfl ⟨by decide +kernel, rfl, hl.1, (Nat.le_of_ble_eq_true rfl), ⟨(Nat.le_of_ble_eq_true rfl), (Nat.le_of_ble_eq_true rfl)⟩, ⟨(Nat.le_of_ble_eq_true rfl), (Nat.le_of_ble_eq_true rfl)⟩, rfl, rfl⟩ rfl (mw_h (sBeg 0 2 σ) th fl dv) rfl dX11_ryeRest_11) (fun u H locs hp hw => ?_)
  have hp := hp.symm
  subst hp
  exact ret_v (pR0 i (mi / 2) (sBeg 0 2 σ), th, fl, dv) cx hw rfl dX11_ryeRest_14 (Nat.le_of_ble_eq_true rfl) (Nat.le_of_ble_eq_true rfl)
set_option maxHeartbeats 4000000 in
set_option maxRecDepth 100000 in
theorem c_X11_sourRest (l : Launch) (D : va_G) (M : Nat → Nat) (Q : Nat → ClassId) (σ : St) (th fl dv : Int32) (i : Nat) (hi : i < 20) (hb : s_N σ + 3 < 2 ^ 30) (mi : Int32) : MV l yX11_sourRest cX11_sourRest 3 ({ frames := 3, cells := 0, slots := 0, locals := 66 }) D cls (tyl Q) [.ref (M 0), .int (nI i), .int mi] (mw M Q) (mw M Q (σ, th, fl, dv)) (fun u => u = (pR4 i mi σ, th, fl, dv)) 0 0 := by
  refine MV_of (by decide) (Nat.le_of_ble_eq_true rfl) ?_
  intro p e s m args below meth c A ls cx hw hl
  have hl : lv_has ls 3 [(0, .ref (M 0)), (1, .int (nI i)), (2, .int mi)] := hl
  refine lv_aload_n cx.x cx.b dX11_sourRest_0 rfl (lv_at hl 0 rfl) ?_
  refine lv_iconst (v := 0) cx.x cx.b dX11_sourRest_1 (by decide) ?_
  refine lv_iconst (v := 4) cx.x cx.b dX11_sourRest_2 (by decide) ?_
  refine cgo_v cx hw (rV_v (q0 := 0) (n := 2) (As := [.int 0, .int 4]) (rest := []) cx hw (c_X11_begin l D M Q σ th fl dv (by show s_N σ < 2 ^ 30; omega) 0 4) (gd_V tw_847 tw_849 ts_10 tw_4 tw_850) rfl ⟨by decide +kernel, rfl, hl.1, (Nat.le_of_ble_eq_true rfl), ⟨(Nat.le_of_ble_eq_true rfl), (Nat.le_of_ble_eq_true rfl)⟩, ⟨(Nat.le_of_ble_eq_true rfl), (Nat.le_of_ble_eq_true rfl)⟩, rfl, rfl⟩ rfl (mw_h σ th fl dv) rfl dX11_sourRest_3) (fun u H locs hp hw => ?_)
  have hp := hp.symm
  subst hp
  refine lv_aload_n cx.x cx.b dX11_sourRest_6 rfl (lv_at hl 0 rfl) ?_
  refine gt_f (v := .ref (M 5)) cx hw 0 (mw_h (sBeg 0 4 σ) th fl dv) rfl inX11 6 (by decide) tw_763 ⟨rfl, rfl, Or.inl rfl⟩ rfl dX11_sourRest_7 ?_
  refine lv_iload_n cx.x cx.b dX11_sourRest_10 rfl (lv_at hl 1 rfl) ?_
  refine lv_dup2_11 cx.x cx.b dX11_sourRest_11 rfl rfl ?_
  refine ald_i (f := (s_F σ 6)) cx hw 5 0 rfl rfl i rfl hi (by decide) dX11_sourRest_12 ?_
  refine lv_iconst (v := 1) cx.x cx.b dX11_sourRest_13 (by decide) ?_
  refine lv_iadd cx.x cx.b dX11_sourRest_14 ?_
  refine ast_i (f := (s_F σ 6)) cx hw 5 0 rfl rfl i rfl hi (by decide) dX11_sourRest_15 (w1 := mw M Q (sF 6 i ((s_F σ 6 i) + 1) (sBeg 0 4 σ), th, fl, dv)) mw_a5 (fun H locs hw => ?_)
  refine lv_aload_n cx.x cx.b dX11_sourRest_16 rfl (lv_at hl 0 rfl) ?_
  refine lv_iload_n cx.x cx.b dX11_sourRest_17 rfl (lv_at hl 1 rfl) ?_
  refine lv_iload_n cx.x cx.b dX11_sourRest_18 rfl (lv_at hl 2 rfl) ?_
  refine cgo_v cx hw (rV_v (q0 := 0) (n := 2) (As := [.int (nI i), .int mi]) (rest := []) cx hw (c_X11_ryeRest l D M Q (sF 6 i ((s_F σ 6 i) + 1) (sBeg 0 4 σ)) th fl dv i hi (by show s_N σ + 1 + 2 < 2 ^ 30; omega) mi) (gd_V tw_843 tw_845 ts_9 tw_4 tw_846) rfl ⟨by decide +kernel, rfl, hl.1, (Nat.le_of_ble_eq_true rfl), ⟨(Nat.le_of_ble_eq_true rfl), (Nat.le_of_ble_eq_true rfl)⟩, ⟨(Nat.le_of_ble_eq_true rfl), (Nat.le_of_ble_eq_true rfl)⟩, rfl, rfl⟩ rfl (mw_h (sF 6 i ((s_F σ 6 i) + 1) (sBeg 0 4 σ)) th fl dv) rfl dX11_sourRest_19) (fun u H locs hp hw => ?_)
  have hp := hp.symm
  subst hp
  exact ret_v (pR2 i mi (sF 6 i ((s_F σ 6 i) + 1) (sBeg 0 4 σ)), th, fl, dv) cx hw rfl dX11_sourRest_22 (Nat.le_of_ble_eq_true rfl) (Nat.le_of_ble_eq_true rfl)
set_option maxHeartbeats 4000000 in
set_option maxRecDepth 100000 in
theorem c_X11_rests (l : Launch) (D : va_G) (M : Nat → Nat) (Q : Nat → ClassId) (σ : St) (th fl dv : Int32) (i : Nat) (hi : i < 20) (hb : s_N σ + 4 < 2 ^ 30) (hd : s_k σ i < 8) (mi : Int32) : MI l yX11_rests cX11_rests 3 .int ({ frames := 4, cells := 0, slots := 0, locals := 88 }) D cls (tyl Q) [.ref (M 0), .int (nI i), .int mi] (mw M Q) (mw M Q (σ, th, fl, dv)) (fun r u => r = s_F (rRest (s_k σ i) i mi σ) 4 i ∧ u = (rRest (s_k σ i) i mi σ, th, b01 (fRest (s_k σ i) i mi σ), dv)) 0 0 := by
  refine MI_of (by decide) (Nat.le_of_ble_eq_true rfl) ?_
  intro p e s m args below meth c A ls cx hw hl
  have hl : lv_has ls 3 [(0, .ref (M 0)), (1, .int (nI i)), (2, .int mi)] := hl
  rcases (show s_k σ i = 0 ∨ s_k σ i = 1 ∨ s_k σ i = 2 ∨ s_k σ i = 3 ∨ s_k σ i = 4 ∨ s_k σ i = 5 ∨ s_k σ i = 6 ∨ s_k σ i = 7 by omega) with h9 | h9 | h9 | h9 | h9 | h9 | h9 | h9
  · refine lv_aload_n cx.x cx.b dX11_rests_0 rfl (lv_at hl 0 rfl) ?_
    refine lv_iconst (v := 0) cx.x cx.b dX11_rests_1 (by decide) ?_
    refine pt_f cx hw 0 (mw_h σ th fl dv) rfl inX11 tyX11 tyX11_ok nmX11 15 (by decide) tw_772 ⟨rfl, rfl, Or.inl rfl⟩ rfl rfl rfl rfl (Nat.le_of_ble_eq_true rfl) dX11_rests_2 (w1 := mw M Q (σ, th, 0, dv)) mw_p15 (fun H locs hw => ?_)
    refine lv_aload_n cx.x cx.b dX11_rests_5 rfl (lv_at hl 0 rfl) ?_
    refine gt_f (v := .ref (M 1)) cx hw 0 (mw_h σ th 0 dv) rfl inX11 2 (by decide) tw_759 ⟨rfl, rfl, Or.inl rfl⟩ rfl dX11_rests_6 ?_
    refine lv_iload_n cx.x cx.b dX11_rests_9 rfl (lv_at hl 1 rfl) ?_
    refine ald_i (f := (fun x9 => nI (s_k σ x9))) cx hw 1 0 rfl rfl i rfl hi (by decide) dX11_rests_10 ?_
    rw [h9]
    refine lv_tableOut (tgt := 138) cx.x cx.b dX11_rests_11 (by decide) (by decide) ?_
    refine lv_aload_n cx.x cx.b dX11_rests_138 rfl (lv_at hl 0 rfl) ?_
    refine lv_iload_n cx.x cx.b dX11_rests_139 rfl (lv_at hl 1 rfl) ?_
    refine lv_iload_n cx.x cx.b dX11_rests_140 rfl (lv_at hl 2 rfl) ?_
    refine cgo_v cx hw (rV_v (q0 := 0) (n := 2) (As := [.int (nI i), .int mi]) (rest := []) cx hw (c_X11_plainRest l D M Q σ th 0 dv i hi (by show s_N σ + 1 < 2 ^ 30; omega) mi) (gd_V tw_851 tw_853 ts_11 tw_4 tw_854) rfl ⟨by decide +kernel, rfl, hl.1, (Nat.le_of_ble_eq_true rfl), ⟨(Nat.le_of_ble_eq_true rfl), (Nat.le_of_ble_eq_true rfl)⟩, ⟨(Nat.le_of_ble_eq_true rfl), (Nat.le_of_ble_eq_true rfl)⟩, rfl, rfl⟩ rfl (mw_h σ th 0 dv) rfl dX11_rests_141) (fun u H locs hp hw => ?_)
    have hp := hp.symm
    subst hp
    refine lv_aload_n cx.x cx.b dX11_rests_144 rfl (lv_at hl 0 rfl) ?_
    refine gt_f (v := .ref (M 3)) cx hw 0 (mw_h (pR0 i mi σ) th 0 dv) rfl inX11 4 (by decide) tw_761 ⟨rfl, rfl, Or.inl rfl⟩ rfl dX11_rests_145 ?_
    refine lv_iload_n cx.x cx.b dX11_rests_148 rfl (lv_at hl 1 rfl) ?_
    refine ald_i (f := (s_F (pR0 i mi σ) 4)) cx hw 3 0 rfl rfl i rfl hi (by decide) dX11_rests_149 ?_
    exact ret_i (pR0 i mi σ, th, 0, dv) cx hw ⟨rfl, by rw [← fR0 (by decide)]; rfl⟩ dX11_rests_150 (Nat.le_of_ble_eq_true rfl) (Nat.le_of_ble_eq_true rfl)
  · refine lv_aload_n cx.x cx.b dX11_rests_0 rfl (lv_at hl 0 rfl) ?_
    refine lv_iconst (v := 0) cx.x cx.b dX11_rests_1 (by decide) ?_
    refine pt_f cx hw 0 (mw_h σ th fl dv) rfl inX11 tyX11 tyX11_ok nmX11 15 (by decide) tw_772 ⟨rfl, rfl, Or.inl rfl⟩ rfl rfl rfl rfl (Nat.le_of_ble_eq_true rfl) dX11_rests_2 (w1 := mw M Q (σ, th, 0, dv)) mw_p15 (fun H locs hw => ?_)
    refine lv_aload_n cx.x cx.b dX11_rests_5 rfl (lv_at hl 0 rfl) ?_
    refine gt_f (v := .ref (M 1)) cx hw 0 (mw_h σ th 0 dv) rfl inX11 2 (by decide) tw_759 ⟨rfl, rfl, Or.inl rfl⟩ rfl dX11_rests_6 ?_
    refine lv_iload_n cx.x cx.b dX11_rests_9 rfl (lv_at hl 1 rfl) ?_
    refine ald_i (f := (fun x9 => nI (s_k σ x9))) cx hw 1 0 rfl rfl i rfl hi (by decide) dX11_rests_10 ?_
    rw [h9]
    refine lv_tableOut (tgt := 138) cx.x cx.b dX11_rests_11 (by decide) (by decide) ?_
    refine lv_aload_n cx.x cx.b dX11_rests_138 rfl (lv_at hl 0 rfl) ?_
    refine lv_iload_n cx.x cx.b dX11_rests_139 rfl (lv_at hl 1 rfl) ?_
    refine lv_iload_n cx.x cx.b dX11_rests_140 rfl (lv_at hl 2 rfl) ?_
    refine cgo_v cx hw (rV_v (q0 := 0) (n := 2) (As := [.int (nI i), .int mi]) (rest := []) cx hw (c_X11_plainRest l D M Q σ th 0 dv i hi (by show s_N σ + 1 < 2 ^ 30; omega) mi) (gd_V tw_851 tw_853 ts_11 tw_4 tw_854) rfl ⟨by decide +kernel, rfl, hl.1, (Nat.le_of_ble_eq_true rfl), ⟨(Nat.le_of_ble_eq_true rfl), (Nat.le_of_ble_eq_true rfl)⟩, ⟨(Nat.le_of_ble_eq_true rfl), (Nat.le_of_ble_eq_true rfl)⟩, rfl, rfl⟩ rfl (mw_h σ th 0 dv) rfl dX11_rests_141) (fun u H locs hp hw => ?_)
    have hp := hp.symm
    subst hp
    refine lv_aload_n cx.x cx.b dX11_rests_144 rfl (lv_at hl 0 rfl) ?_
    refine gt_f (v := .ref (M 3)) cx hw 0 (mw_h (pR0 i mi σ) th 0 dv) rfl inX11 4 (by decide) tw_761 ⟨rfl, rfl, Or.inl rfl⟩ rfl dX11_rests_145 ?_
    refine lv_iload_n cx.x cx.b dX11_rests_148 rfl (lv_at hl 1 rfl) ?_
    refine ald_i (f := (s_F (pR0 i mi σ) 4)) cx hw 3 0 rfl rfl i rfl hi (by decide) dX11_rests_149 ?_
    exact ret_i (pR0 i mi σ, th, 0, dv) cx hw ⟨rfl, by rw [← fR0 (by decide)]; rfl⟩ dX11_rests_150 (Nat.le_of_ble_eq_true rfl) (Nat.le_of_ble_eq_true rfl)
  · refine lv_aload_n cx.x cx.b dX11_rests_0 rfl (lv_at hl 0 rfl) ?_
    refine lv_iconst (v := 0) cx.x cx.b dX11_rests_1 (by decide) ?_
    refine pt_f cx hw 0 (mw_h σ th fl dv) rfl inX11 tyX11 tyX11_ok nmX11 15 (by decide) tw_772 ⟨rfl, rfl, Or.inl rfl⟩ rfl rfl rfl rfl (Nat.le_of_ble_eq_true rfl) dX11_rests_2 (w1 := mw M Q (σ, th, 0, dv)) mw_p15 (fun H locs hw => ?_)
    refine lv_aload_n cx.x cx.b dX11_rests_5 rfl (lv_at hl 0 rfl) ?_
    refine gt_f (v := .ref (M 1)) cx hw 0 (mw_h σ th 0 dv) rfl inX11 2 (by decide) tw_759 ⟨rfl, rfl, Or.inl rfl⟩ rfl dX11_rests_6 ?_
    refine lv_iload_n cx.x cx.b dX11_rests_9 rfl (lv_at hl 1 rfl) ?_
    refine ald_i (f := (fun x9 => nI (s_k σ x9))) cx hw 1 0 rfl rfl i rfl hi (by decide) dX11_rests_10 ?_
    rw [h9]
    refine lv_tableIn (tgt := 48) cx.x cx.b dX11_rests_11 (by decide) (by decide) rfl (by decide) ?_
    refine lv_aload_n cx.x cx.b dX11_rests_48 rfl (lv_at hl 0 rfl) ?_
    refine lv_iload_n cx.x cx.b dX11_rests_49 rfl (lv_at hl 1 rfl) ?_
    refine lv_iload_n cx.x cx.b dX11_rests_50 rfl (lv_at hl 2 rfl) ?_
    refine cgo_v cx hw (rV_v (q0 := 0) (n := 2) (As := [.int (nI i), .int mi]) (rest := []) cx hw (c_X11_ryeRest l D M Q σ th 0 dv i hi (by show s_N σ + 2 < 2 ^ 30; omega) mi) (gd_V tw_843 tw_845 ts_9 tw_4 tw_846) rfl ⟨by decide +kernel, rfl, hl.1, (Nat.le_of_ble_eq_true rfl), ⟨(Nat.le_of_ble_eq_true rfl), (Nat.le_of_ble_eq_true rfl)⟩, ⟨(Nat.le_of_ble_eq_true rfl), (Nat.le_of_ble_eq_true rfl)⟩, rfl, rfl⟩ rfl (mw_h σ th 0 dv) rfl dX11_rests_51) (fun u H locs hp hw => ?_)
    have hp := hp.symm
    subst hp
    refine lv_goto (tgt := 144) cx.x cx.b dX11_rests_54 (by decide) ?_
    refine lv_aload_n cx.x cx.b dX11_rests_144 rfl (lv_at hl 0 rfl) ?_
    refine gt_f (v := .ref (M 3)) cx hw 0 (mw_h (pR2 i mi σ) th 0 dv) rfl inX11 4 (by decide) tw_761 ⟨rfl, rfl, Or.inl rfl⟩ rfl dX11_rests_145 ?_
    refine lv_iload_n cx.x cx.b dX11_rests_148 rfl (lv_at hl 1 rfl) ?_
    refine ald_i (f := (s_F (pR2 i mi σ) 4)) cx hw 3 0 rfl rfl i rfl hi (by decide) dX11_rests_149 ?_
    exact ret_i (pR2 i mi σ, th, 0, dv) cx hw ⟨rfl, by rw [← fR0 (by decide)]; rfl⟩ dX11_rests_150 (Nat.le_of_ble_eq_true rfl) (Nat.le_of_ble_eq_true rfl)
  · refine lv_aload_n cx.x cx.b dX11_rests_0 rfl (lv_at hl 0 rfl) ?_
    refine lv_iconst (v := 0) cx.x cx.b dX11_rests_1 (by decide) ?_
    refine pt_f cx hw 0 (mw_h σ th fl dv) rfl inX11 tyX11 tyX11_ok nmX11 15 (by decide) tw_772 ⟨rfl, rfl, Or.inl rfl⟩ rfl rfl rfl rfl (Nat.le_of_ble_eq_true rfl) dX11_rests_2 (w1 := mw M Q (σ, th, 0, dv)) mw_p15 (fun H locs hw => ?_)
    refine lv_aload_n cx.x cx.b dX11_rests_5 rfl (lv_at hl 0 rfl) ?_
    refine gt_f (v := .ref (M 1)) cx hw 0 (mw_h σ th 0 dv) rfl inX11 2 (by decide) tw_759 ⟨rfl, rfl, Or.inl rfl⟩ rfl dX11_rests_6 ?_
    refine lv_iload_n cx.x cx.b dX11_rests_9 rfl (lv_at hl 1 rfl) ?_
    refine ald_i (f := (fun x9 => nI (s_k σ x9))) cx hw 1 0 rfl rfl i rfl hi (by decide) dX11_rests_10 ?_
    rw [h9]
    refine lv_tableIn (tgt := 138) cx.x cx.b dX11_rests_11 (by decide) (by decide) rfl (by decide) ?_
    refine lv_aload_n cx.x cx.b dX11_rests_138 rfl (lv_at hl 0 rfl) ?_
    refine lv_iload_n cx.x cx.b dX11_rests_139 rfl (lv_at hl 1 rfl) ?_
    refine lv_iload_n cx.x cx.b dX11_rests_140 rfl (lv_at hl 2 rfl) ?_
    refine cgo_v cx hw (rV_v (q0 := 0) (n := 2) (As := [.int (nI i), .int mi]) (rest := []) cx hw (c_X11_plainRest l D M Q σ th 0 dv i hi (by show s_N σ + 1 < 2 ^ 30; omega) mi) (gd_V tw_851 tw_853 ts_11 tw_4 tw_854) rfl ⟨by decide +kernel, rfl, hl.1, (Nat.le_of_ble_eq_true rfl), ⟨(Nat.le_of_ble_eq_true rfl), (Nat.le_of_ble_eq_true rfl)⟩, ⟨(Nat.le_of_ble_eq_true rfl), (Nat.le_of_ble_eq_true rfl)⟩, rfl, rfl⟩ rfl (mw_h σ th 0 dv) rfl dX11_rests_141) (fun u H locs hp hw => ?_)
    have hp := hp.symm
    subst hp
    refine lv_aload_n cx.x cx.b dX11_rests_144 rfl (lv_at hl 0 rfl) ?_
    refine gt_f (v := .ref (M 3)) cx hw 0 (mw_h (pR0 i mi σ) th 0 dv) rfl inX11 4 (by decide) tw_761 ⟨rfl, rfl, Or.inl rfl⟩ rfl dX11_rests_145 ?_
    refine lv_iload_n cx.x cx.b dX11_rests_148 rfl (lv_at hl 1 rfl) ?_
    refine ald_i (f := (s_F (pR0 i mi σ) 4)) cx hw 3 0 rfl rfl i rfl hi (by decide) dX11_rests_149 ?_
    exact ret_i (pR0 i mi σ, th, 0, dv) cx hw ⟨rfl, by rw [← fR0 (by decide)]; rfl⟩ dX11_rests_150 (Nat.le_of_ble_eq_true rfl) (Nat.le_of_ble_eq_true rfl)
  · refine lv_aload_n cx.x cx.b dX11_rests_0 rfl (lv_at hl 0 rfl) ?_
    refine lv_iconst (v := 0) cx.x cx.b dX11_rests_1 (by decide) ?_
    refine pt_f cx hw 0 (mw_h σ th fl dv) rfl inX11 tyX11 tyX11_ok nmX11 15 (by decide) tw_772 ⟨rfl, rfl, Or.inl rfl⟩ rfl rfl rfl rfl (Nat.le_of_ble_eq_true rfl) dX11_rests_2 (w1 := mw M Q (σ, th, 0, dv)) mw_p15 (fun H locs hw => ?_)
    refine lv_aload_n cx.x cx.b dX11_rests_5 rfl (lv_at hl 0 rfl) ?_
    refine gt_f (v := .ref (M 1)) cx hw 0 (mw_h σ th 0 dv) rfl inX11 2 (by decide) tw_759 ⟨rfl, rfl, Or.inl rfl⟩ rfl dX11_rests_6 ?_
    refine lv_iload_n cx.x cx.b dX11_rests_9 rfl (lv_at hl 1 rfl) ?_
    refine ald_i (f := (fun x9 => nI (s_k σ x9))) cx hw 1 0 rfl rfl i rfl hi (by decide) dX11_rests_10 ?_
    rw [h9]
    refine lv_tableIn (tgt := 57) cx.x cx.b dX11_rests_11 (by decide) (by decide) rfl (by decide) ?_
    refine lv_aload_n cx.x cx.b dX11_rests_57 rfl (lv_at hl 0 rfl) ?_
    refine lv_iload_n cx.x cx.b dX11_rests_58 rfl (lv_at hl 1 rfl) ?_
    refine lv_iload_n cx.x cx.b dX11_rests_59 rfl (lv_at hl 2 rfl) ?_
    refine cgo_v cx hw (rV_v (q0 := 0) (n := 2) (As := [.int (nI i), .int mi]) (rest := []) cx hw (c_X11_sourRest l D M Q σ th 0 dv i hi (by show s_N σ + 3 < 2 ^ 30; omega) mi) (gd_V tw_855 tw_857 ts_12 tw_4 tw_858) rfl ⟨by decide +kernel, rfl, hl.1, (Nat.le_of_ble_eq_true rfl), ⟨(Nat.le_of_ble_eq_true rfl), (Nat.le_of_ble_eq_true rfl)⟩, ⟨(Nat.le_of_ble_eq_true rfl), (Nat.le_of_ble_eq_true rfl)⟩, rfl, rfl⟩ rfl (mw_h σ th 0 dv) rfl dX11_rests_60) (fun u H locs hp hw => ?_)
    have hp := hp.symm
    subst hp
    refine lv_goto (tgt := 144) cx.x cx.b dX11_rests_63 (by decide) ?_
    refine lv_aload_n cx.x cx.b dX11_rests_144 rfl (lv_at hl 0 rfl) ?_
    refine gt_f (v := .ref (M 3)) cx hw 0 (mw_h (pR4 i mi σ) th 0 dv) rfl inX11 4 (by decide) tw_761 ⟨rfl, rfl, Or.inl rfl⟩ rfl dX11_rests_145 ?_
    refine lv_iload_n cx.x cx.b dX11_rests_148 rfl (lv_at hl 1 rfl) ?_
    refine ald_i (f := (s_F (pR4 i mi σ) 4)) cx hw 3 0 rfl rfl i rfl hi (by decide) dX11_rests_149 ?_
    exact ret_i (pR4 i mi σ, th, 0, dv) cx hw ⟨rfl, by rw [← fR0 (by decide)]; rfl⟩ dX11_rests_150 (Nat.le_of_ble_eq_true rfl) (Nat.le_of_ble_eq_true rfl)
  · refine lv_aload_n cx.x cx.b dX11_rests_0 rfl (lv_at hl 0 rfl) ?_
    refine lv_iconst (v := 0) cx.x cx.b dX11_rests_1 (by decide) ?_
    refine pt_f cx hw 0 (mw_h σ th fl dv) rfl inX11 tyX11 tyX11_ok nmX11 15 (by decide) tw_772 ⟨rfl, rfl, Or.inl rfl⟩ rfl rfl rfl rfl (Nat.le_of_ble_eq_true rfl) dX11_rests_2 (w1 := mw M Q (σ, th, 0, dv)) mw_p15 (fun H locs hw => ?_)
    refine lv_aload_n cx.x cx.b dX11_rests_5 rfl (lv_at hl 0 rfl) ?_
    refine gt_f (v := .ref (M 1)) cx hw 0 (mw_h σ th 0 dv) rfl inX11 2 (by decide) tw_759 ⟨rfl, rfl, Or.inl rfl⟩ rfl dX11_rests_6 ?_
    refine lv_iload_n cx.x cx.b dX11_rests_9 rfl (lv_at hl 1 rfl) ?_
    refine ald_i (f := (fun x9 => nI (s_k σ x9))) cx hw 1 0 rfl rfl i rfl hi (by decide) dX11_rests_10 ?_
    rw [h9]
    refine lv_tableIn (tgt := 89) cx.x cx.b dX11_rests_11 (by decide) (by decide) rfl (by decide) ?_
    refine lv_aload_n cx.x cx.b dX11_rests_89 rfl (lv_at hl 0 rfl) ?_
    refine lv_iconst (v := 0) cx.x cx.b dX11_rests_90 (by decide) ?_
    refine lv_iconst (v := 5) cx.x cx.b dX11_rests_91 (by decide) ?_
    refine cgo_v cx hw (rV_v (q0 := 0) (n := 2) (As := [.int 0, .int 5]) (rest := []) cx hw (c_X11_begin l D M Q σ th 0 dv (by show s_N σ < 2 ^ 30; omega) 0 5) (gd_V tw_847 tw_849 ts_10 tw_4 tw_850) rfl ⟨by decide +kernel, rfl, hl.1, (Nat.le_of_ble_eq_true rfl), ⟨(Nat.le_of_ble_eq_true rfl), (Nat.le_of_ble_eq_true rfl)⟩, ⟨(Nat.le_of_ble_eq_true rfl), (Nat.le_of_ble_eq_true rfl)⟩, rfl, rfl⟩ rfl (mw_h σ th 0 dv) rfl dX11_rests_92) (fun u H locs hp hw => ?_)
    have hp := hp.symm
    subst hp
    refine lv_aload_n cx.x cx.b dX11_rests_95 rfl (lv_at hl 0 rfl) ?_
    refine lv_iload_n cx.x cx.b dX11_rests_96 rfl (lv_at hl 1 rfl) ?_
    refine lv_iload_n cx.x cx.b dX11_rests_97 rfl (lv_at hl 2 rfl) ?_
    refine cgo_v cx hw (rV_v (q0 := 0) (n := 2) (As := [.int (nI i), .int mi]) (rest := []) cx hw (c_X11_plainRest l D M Q (sBeg 0 5 σ) th 0 dv i hi (by show s_N σ + 1 + 1 < 2 ^ 30; omega) mi) (gd_V tw_851 tw_853 ts_11 tw_4 tw_854) rfl ⟨by decide +kernel, rfl, hl.1, (Nat.le_of_ble_eq_true rfl), ⟨(Nat.le_of_ble_eq_true rfl), (Nat.le_of_ble_eq_true rfl)⟩, ⟨(Nat.le_of_ble_eq_true rfl), (Nat.le_of_ble_eq_true rfl)⟩, rfl, rfl⟩ rfl (mw_h (sBeg 0 5 σ) th 0 dv) rfl dX11_rests_98) (fun u H locs hp hw => ?_)
    have hp := hp.symm
    subst hp
    refine lv_aload_n cx.x cx.b dX11_rests_101 rfl (lv_at hl 0 rfl) ?_
    refine gt_f (v := .ref (M 3)) cx hw 0 (mw_h (pR0 i mi (sBeg 0 5 σ)) th 0 dv) rfl inX11 4 (by decide) tw_761 ⟨rfl, rfl, Or.inl rfl⟩ rfl dX11_rests_102 ?_
    refine lv_iload_n cx.x cx.b dX11_rests_105 rfl (lv_at hl 1 rfl) ?_
    refine ald_i (f := (s_F (pR0 i mi (sBeg 0 5 σ)) 4)) cx hw 3 0 rfl rfl i rfl hi (by decide) dX11_rests_106 ?_
    refine lv_bipush (v := 90) cx.x cx.b dX11_rests_107 (by decide) ?_
    refine lv_icmp_lt (tgt := 144) cx.x cx.b dX11_rests_109 (by decide) (fun hb109 => ?_) (fun hb109 => ?_)
    · refine lv_aload_n cx.x cx.b dX11_rests_144 rfl (lv_at hl 0 rfl) ?_
      refine gt_f (v := .ref (M 3)) cx hw 0 (mw_h (pR0 i mi (sBeg 0 5 σ)) th 0 dv) rfl inX11 4 (by decide) tw_761 ⟨rfl, rfl, Or.inl rfl⟩ rfl dX11_rests_145 ?_
      refine lv_iload_n cx.x cx.b dX11_rests_148 rfl (lv_at hl 1 rfl) ?_
      refine ald_i (f := (s_F (pR0 i mi (sBeg 0 5 σ)) 4)) cx hw 3 0 rfl rfl i rfl hi (by decide) dX11_rests_149 ?_
      exact ret_i (pR0 i mi (sBeg 0 5 σ), th, 0, dv) cx hw ⟨by rw [rest5n (Int32.not_le.mpr hb109)]; rfl, by rw [rest5n (Int32.not_le.mpr hb109), ← b01_0 (b := fRest 5 i mi σ) (fun g => Int32.not_le.mpr hb109 g.2)]; rfl⟩ dX11_rests_150 (Nat.le_of_ble_eq_true rfl) (Nat.le_of_ble_eq_true rfl)
    · refine lv_aload_n cx.x cx.b dX11_rests_112 rfl (lv_at hl 0 rfl) ?_
      refine gt_f (v := .ref (M 3)) cx hw 0 (mw_h (pR0 i mi (sBeg 0 5 σ)) th 0 dv) rfl inX11 4 (by decide) tw_761 ⟨rfl, rfl, Or.inl rfl⟩ rfl dX11_rests_113 ?_
      refine lv_iload_n cx.x cx.b dX11_rests_116 rfl (lv_at hl 1 rfl) ?_
      refine lv_bipush (v := 10) cx.x cx.b dX11_rests_117 (by decide) ?_
      refine ast_i (f := (s_F (pR0 i mi (sBeg 0 5 σ)) 4)) cx hw 3 0 rfl rfl i rfl hi (by decide) dX11_rests_119 (w1 := mw M Q (sF 4 i 10 (pR0 i mi (sBeg 0 5 σ)), th, 0, dv)) mw_a3 (fun H locs hw => ?_)
      refine lv_aload_n cx.x cx.b dX11_rests_120 rfl (lv_at hl 0 rfl) ?_
      refine lv_iconst (v := 1) cx.x cx.b dX11_rests_121 (by decide) ?_
      refine pt_f cx hw 0 (mw_h (sF 4 i 10 (pR0 i mi (sBeg 0 5 σ))) th 0 dv) rfl inX11 tyX11 tyX11_ok nmX11 15 (by decide) tw_772 ⟨rfl, rfl, Or.inl rfl⟩ rfl rfl rfl rfl (Nat.le_of_ble_eq_true rfl) dX11_rests_122 (w1 := mw M Q (sF 4 i 10 (pR0 i mi (sBeg 0 5 σ)), th, 1, dv)) mw_p15 (fun H locs hw => ?_)
      refine lv_aload_n cx.x cx.b dX11_rests_125 rfl (lv_at hl 0 rfl) ?_
      refine lv_dup cx.x cx.b dX11_rests_126 rfl ?_
      refine gt_f (v := .int (s_c σ 4)) cx hw 0 (mw_h (sF 4 i 10 (pR0 i mi (sBeg 0 5 σ))) th 1 dv) rfl inX11 12 (by decide) tw_769 ⟨rfl, rfl, Or.inl rfl⟩ rfl dX11_rests_127 ?_
      refine lv_iconst (v := 1) cx.x cx.b dX11_rests_130 (by decide) ?_
      refine lv_iadd cx.x cx.b dX11_rests_131 ?_
      refine pt_f cx hw 0 (mw_h (sF 4 i 10 (pR0 i mi (sBeg 0 5 σ))) th 1 dv) rfl inX11 tyX11 tyX11_ok nmX11 12 (by decide) tw_769 ⟨rfl, rfl, Or.inl rfl⟩ rfl rfl rfl rfl (Nat.le_of_ble_eq_true rfl) dX11_rests_132 (w1 := mw M Q (sC 4 ((s_c σ 4) + 1) (sF 4 i 10 (pR0 i mi (sBeg 0 5 σ))), th, 1, dv)) mw_p12 (fun H locs hw => ?_)
      refine lv_goto (tgt := 144) cx.x cx.b dX11_rests_135 (by decide) ?_
      refine lv_aload_n cx.x cx.b dX11_rests_144 rfl (lv_at hl 0 rfl) ?_
      refine gt_f (v := .ref (M 3)) cx hw 0 (mw_h (sC 4 ((s_c σ 4) + 1) (sF 4 i 10 (pR0 i mi (sBeg 0 5 σ)))) th 1 dv) rfl inX11 4 (by decide) tw_761 ⟨rfl, rfl, Or.inl rfl⟩ rfl dX11_rests_145 ?_
      refine lv_iload_n cx.x cx.b dX11_rests_148 rfl (lv_at hl 1 rfl) ?_
      refine ald_i (f := (s_F (sF 4 i 10 (pR0 i mi (sBeg 0 5 σ))) 4)) cx hw 3 0 rfl rfl i rfl hi (by decide) dX11_rests_149 ?_
      exact ret_i (sC 4 ((s_c σ 4) + 1) (sF 4 i 10 (pR0 i mi (sBeg 0 5 σ))), th, 1, dv) cx hw ⟨by rw [rest5p (Int32.not_lt.mp hb109)]; rfl, by rw [rest5p (Int32.not_lt.mp hb109), ← b01_1 (b := fRest 5 i mi σ) ⟨rfl, Int32.not_lt.mp hb109⟩]; rfl⟩ dX11_rests_150 (Nat.le_of_ble_eq_true rfl) (Nat.le_of_ble_eq_true rfl)
  · refine lv_aload_n cx.x cx.b dX11_rests_0 rfl (lv_at hl 0 rfl) ?_
    refine lv_iconst (v := 0) cx.x cx.b dX11_rests_1 (by decide) ?_
    refine pt_f cx hw 0 (mw_h σ th fl dv) rfl inX11 tyX11 tyX11_ok nmX11 15 (by decide) tw_772 ⟨rfl, rfl, Or.inl rfl⟩ rfl rfl rfl rfl (Nat.le_of_ble_eq_true rfl) dX11_rests_2 (w1 := mw M Q (σ, th, 0, dv)) mw_p15 (fun H locs hw => ?_)
    refine lv_aload_n cx.x cx.b dX11_rests_5 rfl (lv_at hl 0 rfl) ?_
    refine gt_f (v := .ref (M 1)) cx hw 0 (mw_h σ th 0 dv) rfl inX11 2 (by decide) tw_759 ⟨rfl, rfl, Or.inl rfl⟩ rfl dX11_rests_6 ?_
    refine lv_iload_n cx.x cx.b dX11_rests_9 rfl (lv_at hl 1 rfl) ?_
    refine ald_i (f := (fun x9 => nI (s_k σ x9))) cx hw 1 0 rfl rfl i rfl hi (by decide) dX11_rests_10 ?_
    rw [h9]
    refine lv_tableIn (tgt := 138) cx.x cx.b dX11_rests_11 (by decide) (by decide) rfl (by decide) ?_
    refine lv_aload_n cx.x cx.b dX11_rests_138 rfl (lv_at hl 0 rfl) ?_
    refine lv_iload_n cx.x cx.b dX11_rests_139 rfl (lv_at hl 1 rfl) ?_
    refine lv_iload_n cx.x cx.b dX11_rests_140 rfl (lv_at hl 2 rfl) ?_
    refine cgo_v cx hw (rV_v (q0 := 0) (n := 2) (As := [.int (nI i), .int mi]) (rest := []) cx hw (c_X11_plainRest l D M Q σ th 0 dv i hi (by show s_N σ + 1 < 2 ^ 30; omega) mi) (gd_V tw_851 tw_853 ts_11 tw_4 tw_854) rfl ⟨by decide +kernel, rfl, hl.1, (Nat.le_of_ble_eq_true rfl), ⟨(Nat.le_of_ble_eq_true rfl), (Nat.le_of_ble_eq_true rfl)⟩, ⟨(Nat.le_of_ble_eq_true rfl), (Nat.le_of_ble_eq_true rfl)⟩, rfl, rfl⟩ rfl (mw_h σ th 0 dv) rfl dX11_rests_141) (fun u H locs hp hw => ?_)
    have hp := hp.symm
    subst hp
    refine lv_aload_n cx.x cx.b dX11_rests_144 rfl (lv_at hl 0 rfl) ?_
    refine gt_f (v := .ref (M 3)) cx hw 0 (mw_h (pR0 i mi σ) th 0 dv) rfl inX11 4 (by decide) tw_761 ⟨rfl, rfl, Or.inl rfl⟩ rfl dX11_rests_145 ?_
    refine lv_iload_n cx.x cx.b dX11_rests_148 rfl (lv_at hl 1 rfl) ?_
    refine ald_i (f := (s_F (pR0 i mi σ) 4)) cx hw 3 0 rfl rfl i rfl hi (by decide) dX11_rests_149 ?_
    exact ret_i (pR0 i mi σ, th, 0, dv) cx hw ⟨rfl, by rw [← fR0 (by decide)]; rfl⟩ dX11_rests_150 (Nat.le_of_ble_eq_true rfl) (Nat.le_of_ble_eq_true rfl)
  · refine lv_aload_n cx.x cx.b dX11_rests_0 rfl (lv_at hl 0 rfl) ?_
    refine lv_iconst (v := 0) cx.x cx.b dX11_rests_1 (by decide) ?_
    refine pt_f cx hw 0 (mw_h σ th fl dv) rfl inX11 tyX11 tyX11_ok nmX11 15 (by decide) tw_772 ⟨rfl, rfl, Or.inl rfl⟩ rfl rfl rfl rfl (Nat.le_of_ble_eq_true rfl) dX11_rests_2 (w1 := mw M Q (σ, th, 0, dv)) mw_p15 (fun H locs hw => ?_)
    refine lv_aload_n cx.x cx.b dX11_rests_5 rfl (lv_at hl 0 rfl) ?_
    refine gt_f (v := .ref (M 1)) cx hw 0 (mw_h σ th 0 dv) rfl inX11 2 (by decide) tw_759 ⟨rfl, rfl, Or.inl rfl⟩ rfl dX11_rests_6 ?_
    refine lv_iload_n cx.x cx.b dX11_rests_9 rfl (lv_at hl 1 rfl) ?_
    refine ald_i (f := (fun x9 => nI (s_k σ x9))) cx hw 1 0 rfl rfl i rfl hi (by decide) dX11_rests_10 ?_
    rw [h9]
    refine lv_tableIn (tgt := 66) cx.x cx.b dX11_rests_11 (by decide) (by decide) rfl (by decide) ?_
    refine lv_aload_n cx.x cx.b dX11_rests_66 rfl (lv_at hl 0 rfl) ?_
    refine lv_iconst (v := 0) cx.x cx.b dX11_rests_67 (by decide) ?_
    refine lv_bipush (v := 7) cx.x cx.b dX11_rests_68 (by decide) ?_
    refine cgo_v cx hw (rV_v (q0 := 0) (n := 2) (As := [.int 0, .int 7]) (rest := []) cx hw (c_X11_begin l D M Q σ th 0 dv (by show s_N σ < 2 ^ 30; omega) 0 7) (gd_V tw_847 tw_849 ts_10 tw_4 tw_850) rfl ⟨by decide +kernel, rfl, hl.1, (Nat.le_of_ble_eq_true rfl), ⟨(Nat.le_of_ble_eq_true rfl), (Nat.le_of_ble_eq_true rfl)⟩, ⟨(Nat.le_of_ble_eq_true rfl), (Nat.le_of_ble_eq_true rfl)⟩, rfl, rfl⟩ rfl (mw_h σ th 0 dv) rfl dX11_rests_70) (fun u H locs hp hw => ?_)
    have hp := hp.symm
    subst hp
    refine lv_aload_n cx.x cx.b dX11_rests_73 rfl (lv_at hl 0 rfl) ?_
    refine lv_iload_n cx.x cx.b dX11_rests_74 rfl (lv_at hl 1 rfl) ?_
    refine lv_iload_n cx.x cx.b dX11_rests_75 rfl (lv_at hl 2 rfl) ?_
    refine lv_aload_n cx.x cx.b dX11_rests_76 rfl (lv_at hl 0 rfl) ?_
    refine gt_f (v := .ref (M 5)) cx hw 0 (mw_h (sBeg 0 7 σ) th 0 dv) rfl inX11 6 (by decide) tw_763 ⟨rfl, rfl, Or.inl rfl⟩ rfl dX11_rests_77 ?_
    refine lv_iload_n cx.x cx.b dX11_rests_80 rfl (lv_at hl 1 rfl) ?_
    refine ald_i (f := (s_F σ 6)) cx hw 5 0 rfl rfl i rfl hi (by decide) dX11_rests_81 ?_
    refine lv_iadd cx.x cx.b dX11_rests_82 ?_
    refine cgo_v cx hw (rV_v (q0 := 0) (n := 2) (As := [.int (nI i), .int (mi + (s_F σ 6 i))]) (rest := []) cx hw (c_X11_sourRest l D M Q (sBeg 0 7 σ) th 0 dv i hi (by show s_N σ + 1 + 3 < 2 ^ 30; omega) (mi + (s_F σ 6 i))) (gd_V tw_855 tw_857 ts_12 tw_4 tw_858) rfl ⟨by decide +kernel, rfl, hl.1, (Nat.le_of_ble_eq_true rfl), ⟨(Nat.le_of_ble_eq_true rfl), (Nat.le_of_ble_eq_true rfl)⟩, ⟨(Nat.le_of_ble_eq_true rfl), (Nat.le_of_ble_eq_true rfl)⟩, rfl, rfl⟩ rfl (mw_h (sBeg 0 7 σ) th 0 dv) rfl dX11_rests_83) (fun u H locs hp hw => ?_)
    have hp := hp.symm
    subst hp
    refine lv_goto (tgt := 144) cx.x cx.b dX11_rests_86 (by decide) ?_
    refine lv_aload_n cx.x cx.b dX11_rests_144 rfl (lv_at hl 0 rfl) ?_
    refine gt_f (v := .ref (M 3)) cx hw 0 (mw_h (pR4 i (mi + (s_F σ 6 i)) (sBeg 0 7 σ)) th 0 dv) rfl inX11 4 (by decide) tw_761 ⟨rfl, rfl, Or.inl rfl⟩ rfl dX11_rests_145 ?_
    refine lv_iload_n cx.x cx.b dX11_rests_148 rfl (lv_at hl 1 rfl) ?_
    refine ald_i (f := (s_F (pR4 i (mi + (s_F σ 6 i)) (sBeg 0 7 σ)) 4)) cx hw 3 0 rfl rfl i rfl hi (by decide) dX11_rests_149 ?_
    exact ret_i (pR4 i (mi + (s_F σ 6 i)) (sBeg 0 7 σ), th, 0, dv) cx hw ⟨rfl, by rw [← fR0 (by decide)]; rfl⟩ dX11_rests_150 (Nat.le_of_ble_eq_true rfl) (Nat.le_of_ble_eq_true rfl)
set_option maxHeartbeats 4000000 in
set_option maxRecDepth 100000 in
theorem c_X11_plainFold (l : Launch) (D : va_G) (M : Nat → Nat) (Q : Nat → ClassId) (σ : St) (th fl dv : Int32) (i : Nat) (hi : i < 20) (hb : s_N σ + 1 < 2 ^ 30) : MV l yX11_plainFold cX11_plainFold 2 ({ frames := 1, cells := 0, slots := 0, locals := 22 }) D cls (tyl Q) [.ref (M 0), .int (nI i)] (mw M Q) (mw M Q (σ, th, fl, dv)) (fun u => u = (pF0 i σ, th, fl, dv)) 0 0 := by
  refine MV_of (by decide) (Nat.le_of_ble_eq_true rfl) ?_
  intro p e s m args below meth c A ls cx hw hl
  have hl : lv_has ls 2 [(0, .ref (M 0)), (1, .int (nI i))] := hl
  refine lv_aload_n cx.x cx.b dX11_plainFold_0 rfl (lv_at hl 0 rfl) ?_
  refine lv_iconst (v := 1) cx.x cx.b dX11_plainFold_1 (by decide) ?_
  refine lv_iconst (v := 0) cx.x cx.b dX11_plainFold_2 (by decide) ?_
  refine cgo_v cx hw (rV_v (q0 := 0) (n := 2) (As := [.int 1, .int 0]) (rest := []) cx hw (c_X11_begin l D M Q σ th fl dv (by show s_N σ < 2 ^ 30; omega) 1 0) (gd_V tw_847 tw_849 ts_10 tw_4 tw_850) rfl ⟨by decide +kernel, rfl, hl.1, (Nat.le_of_ble_eq_true rfl), ⟨(Nat.le_of_ble_eq_true rfl), (Nat.le_of_ble_eq_true rfl)⟩, ⟨(Nat.le_of_ble_eq_true rfl), (Nat.le_of_ble_eq_true rfl)⟩, rfl, rfl⟩ rfl (mw_h σ th fl dv) rfl dX11_plainFold_3) (fun u H locs hp hw => ?_)
  have hp := hp.symm
  subst hp
  refine lv_aload_n cx.x cx.b dX11_plainFold_6 rfl (lv_at hl 0 rfl) ?_
  refine gt_f (v := .ref (M 3)) cx hw 0 (mw_h (sBeg 1 0 σ) th fl dv) rfl inX11 4 (by decide) tw_761 ⟨rfl, rfl, Or.inl rfl⟩ rfl dX11_plainFold_7 ?_
  refine lv_iload_n cx.x cx.b dX11_plainFold_10 rfl (lv_at hl 1 rfl) ?_
  refine lv_aload_n cx.x cx.b dX11_plainFold_11 rfl (lv_at hl 0 rfl) ?_
  refine gt_f (v := .ref (M 3)) cx hw 0 (mw_h (sBeg 1 0 σ) th fl dv) rfl inX11 4 (by decide) tw_761 ⟨rfl, rfl, Or.inl rfl⟩ rfl dX11_plainFold_12 ?_
  refine lv_iload_n cx.x cx.b dX11_plainFold_15 rfl (lv_at hl 1 rfl) ?_
  refine ald_i (f := (s_F σ 4)) cx hw 3 0 rfl rfl i rfl hi (by decide) dX11_plainFold_16 ?_
  refine lv_iconst (v := 2) cx.x cx.b dX11_plainFold_17 (by decide) ?_
  refine lv_idiv cx.x cx.b dX11_plainFold_18 (by decide) ?_
  refine ast_i (f := (s_F σ 4)) cx hw 3 0 rfl rfl i rfl hi (by decide) dX11_plainFold_19 (w1 := mw M Q (sF 4 i ((s_F σ 4 i) / 2) (sBeg 1 0 σ), th, fl, dv)) mw_a3 (fun H locs hw => ?_)
  refine lv_aload_n cx.x cx.b dX11_plainFold_20 rfl (lv_at hl 0 rfl) ?_
  refine gt_f (v := .ref (M 4)) cx hw 0 (mw_h (sF 4 i ((s_F σ 4 i) / 2) (sBeg 1 0 σ)) th fl dv) rfl inX11 5 (by decide) tw_762 ⟨rfl, rfl, Or.inl rfl⟩ rfl dX11_plainFold_21 ?_
  refine lv_iload_n cx.x cx.b dX11_plainFold_24 rfl (lv_at hl 1 rfl) ?_
  refine lv_dup2_11 cx.x cx.b dX11_plainFold_25 rfl rfl ?_
  refine ald_i (f := (s_F σ 5)) cx hw 4 0 rfl rfl i rfl hi (by decide) dX11_plainFold_26 ?_
  refine lv_iconst (v := 1) cx.x cx.b dX11_plainFold_27 (by decide) ?_
  refine lv_iadd cx.x cx.b dX11_plainFold_28 ?_
  refine ast_i (f := (s_F σ 5)) cx hw 4 0 rfl rfl i rfl hi (by decide) dX11_plainFold_29 (w1 := mw M Q (sF 5 i ((s_F σ 5 i) + 1) (sF 4 i ((s_F σ 4 i) / 2) (sBeg 1 0 σ)), th, fl, dv)) mw_a4 (fun H locs hw => ?_)
  exact ret_v (sF 5 i ((s_F σ 5 i) + 1) (sF 4 i ((s_F σ 4 i) / 2) (sBeg 1 0 σ)), th, fl, dv) cx hw rfl dX11_plainFold_30 (Nat.le_of_ble_eq_true rfl) (Nat.le_of_ble_eq_true rfl)
set_option maxHeartbeats 4000000 in
set_option maxRecDepth 100000 in
theorem c_X11_folds (l : Launch) (D : va_G) (M : Nat → Nat) (Q : Nat → ClassId) (σ : St) (th fl dv : Int32) (i : Nat) (hi : i < 20) (hb : s_N σ + 3 < 2 ^ 30) (hd : s_k σ i < 8) : MV l yX11_folds cX11_folds 2 ({ frames := 2, cells := 0, slots := 0, locals := 43 }) D cls (tyl Q) [.ref (M 0), .int (nI i)] (mw M Q) (mw M Q (σ, th, fl, dv)) (fun u => u = (rFold (s_k σ i) i σ, th, fl, dv)) 0 0 := by
  refine MV_of (by decide) (Nat.le_of_ble_eq_true rfl) ?_
  intro p e s m args below meth c A ls cx hw hl
  have hl : lv_has ls 2 [(0, .ref (M 0)), (1, .int (nI i))] := hl
  rcases (show s_k σ i = 0 ∨ s_k σ i = 1 ∨ s_k σ i = 2 ∨ s_k σ i = 3 ∨ s_k σ i = 4 ∨ s_k σ i = 5 ∨ s_k σ i = 6 ∨ s_k σ i = 7 by omega) with h9 | h9 | h9 | h9 | h9 | h9 | h9 | h9
  · refine lv_aload_n cx.x cx.b dX11_folds_0 rfl (lv_at hl 0 rfl) ?_
    refine gt_f (v := .ref (M 1)) cx hw 0 (mw_h σ th fl dv) rfl inX11 2 (by decide) tw_759 ⟨rfl, rfl, Or.inl rfl⟩ rfl dX11_folds_1 ?_
    refine lv_iload_n cx.x cx.b dX11_folds_4 rfl (lv_at hl 1 rfl) ?_
    refine ald_i (f := (fun x9 => nI (s_k σ x9))) cx hw 1 0 rfl rfl i rfl hi (by decide) dX11_folds_5 ?_
    rw [h9]
    refine lv_tableOut (tgt := 120) cx.x cx.b dX11_folds_6 (by decide) (by decide) ?_
    refine lv_aload_n cx.x cx.b dX11_folds_120 rfl (lv_at hl 0 rfl) ?_
    refine lv_iload_n cx.x cx.b dX11_folds_121 rfl (lv_at hl 1 rfl) ?_
    refine cgo_v cx hw (rV_v (q0 := 0) (n := 1) (As := [.int (nI i)]) (rest := []) cx hw (c_X11_plainFold l D M Q σ th fl dv i hi (by show s_N σ + 1 < 2 ^ 30; omega) ) (gd_V tw_867 tw_869 ts_14 tw_4 tw_870) rfl ⟨by decide +kernel, rfl, hl.1, (Nat.le_of_ble_eq_true rfl), ⟨(Nat.le_of_ble_eq_true rfl), (Nat.le_of_ble_eq_true rfl)⟩, ⟨(Nat.le_of_ble_eq_true rfl), (Nat.le_of_ble_eq_true rfl)⟩, rfl, rfl⟩ rfl (mw_h σ th fl dv) rfl dX11_folds_122) (fun u H locs hp hw => ?_)
    have hp := hp.symm
    subst hp
    exact ret_v (pF0 i σ, th, fl, dv) cx hw rfl dX11_folds_125 (Nat.le_of_ble_eq_true rfl) (Nat.le_of_ble_eq_true rfl)
  · refine lv_aload_n cx.x cx.b dX11_folds_0 rfl (lv_at hl 0 rfl) ?_
    refine gt_f (v := .ref (M 1)) cx hw 0 (mw_h σ th fl dv) rfl inX11 2 (by decide) tw_759 ⟨rfl, rfl, Or.inl rfl⟩ rfl dX11_folds_1 ?_
    refine lv_iload_n cx.x cx.b dX11_folds_4 rfl (lv_at hl 1 rfl) ?_
    refine ald_i (f := (fun x9 => nI (s_k σ x9))) cx hw 1 0 rfl rfl i rfl hi (by decide) dX11_folds_5 ?_
    rw [h9]
    refine lv_tableOut (tgt := 120) cx.x cx.b dX11_folds_6 (by decide) (by decide) ?_
    refine lv_aload_n cx.x cx.b dX11_folds_120 rfl (lv_at hl 0 rfl) ?_
    refine lv_iload_n cx.x cx.b dX11_folds_121 rfl (lv_at hl 1 rfl) ?_
    refine cgo_v cx hw (rV_v (q0 := 0) (n := 1) (As := [.int (nI i)]) (rest := []) cx hw (c_X11_plainFold l D M Q σ th fl dv i hi (by show s_N σ + 1 < 2 ^ 30; omega) ) (gd_V tw_867 tw_869 ts_14 tw_4 tw_870) rfl ⟨by decide +kernel, rfl, hl.1, (Nat.le_of_ble_eq_true rfl), ⟨(Nat.le_of_ble_eq_true rfl), (Nat.le_of_ble_eq_true rfl)⟩, ⟨(Nat.le_of_ble_eq_true rfl), (Nat.le_of_ble_eq_true rfl)⟩, rfl, rfl⟩ rfl (mw_h σ th fl dv) rfl dX11_folds_122) (fun u H locs hp hw => ?_)
    have hp := hp.symm
    subst hp
    exact ret_v (pF0 i σ, th, fl, dv) cx hw rfl dX11_folds_125 (Nat.le_of_ble_eq_true rfl) (Nat.le_of_ble_eq_true rfl)
  · refine lv_aload_n cx.x cx.b dX11_folds_0 rfl (lv_at hl 0 rfl) ?_
    refine gt_f (v := .ref (M 1)) cx hw 0 (mw_h σ th fl dv) rfl inX11 2 (by decide) tw_759 ⟨rfl, rfl, Or.inl rfl⟩ rfl dX11_folds_1 ?_
    refine lv_iload_n cx.x cx.b dX11_folds_4 rfl (lv_at hl 1 rfl) ?_
    refine ald_i (f := (fun x9 => nI (s_k σ x9))) cx hw 1 0 rfl rfl i rfl hi (by decide) dX11_folds_5 ?_
    rw [h9]
    refine lv_tableOut (tgt := 120) cx.x cx.b dX11_folds_6 (by decide) (by decide) ?_
    refine lv_aload_n cx.x cx.b dX11_folds_120 rfl (lv_at hl 0 rfl) ?_
    refine lv_iload_n cx.x cx.b dX11_folds_121 rfl (lv_at hl 1 rfl) ?_
    refine cgo_v cx hw (rV_v (q0 := 0) (n := 1) (As := [.int (nI i)]) (rest := []) cx hw (c_X11_plainFold l D M Q σ th fl dv i hi (by show s_N σ + 1 < 2 ^ 30; omega) ) (gd_V tw_867 tw_869 ts_14 tw_4 tw_870) rfl ⟨by decide +kernel, rfl, hl.1, (Nat.le_of_ble_eq_true rfl), ⟨(Nat.le_of_ble_eq_true rfl), (Nat.le_of_ble_eq_true rfl)⟩, ⟨(Nat.le_of_ble_eq_true rfl), (Nat.le_of_ble_eq_true rfl)⟩, rfl, rfl⟩ rfl (mw_h σ th fl dv) rfl dX11_folds_122) (fun u H locs hp hw => ?_)
    have hp := hp.symm
    subst hp
    exact ret_v (pF0 i σ, th, fl, dv) cx hw rfl dX11_folds_125 (Nat.le_of_ble_eq_true rfl) (Nat.le_of_ble_eq_true rfl)
  · refine lv_aload_n cx.x cx.b dX11_folds_0 rfl (lv_at hl 0 rfl) ?_
    refine gt_f (v := .ref (M 1)) cx hw 0 (mw_h σ th fl dv) rfl inX11 2 (by decide) tw_759 ⟨rfl, rfl, Or.inl rfl⟩ rfl dX11_folds_1 ?_
    refine lv_iload_n cx.x cx.b dX11_folds_4 rfl (lv_at hl 1 rfl) ?_
    refine ald_i (f := (fun x9 => nI (s_k σ x9))) cx hw 1 0 rfl rfl i rfl hi (by decide) dX11_folds_5 ?_
    rw [h9]
    refine lv_tableIn (tgt := 40) cx.x cx.b dX11_folds_6 (by decide) (by decide) rfl (by decide) ?_
    refine lv_aload_n cx.x cx.b dX11_folds_40 rfl (lv_at hl 0 rfl) ?_
    refine lv_iconst (v := 1) cx.x cx.b dX11_folds_41 (by decide) ?_
    refine lv_iconst (v := 3) cx.x cx.b dX11_folds_42 (by decide) ?_
    refine cgo_v cx hw (rV_v (q0 := 0) (n := 2) (As := [.int 1, .int 3]) (rest := []) cx hw (c_X11_begin l D M Q σ th fl dv (by show s_N σ < 2 ^ 30; omega) 1 3) (gd_V tw_847 tw_849 ts_10 tw_4 tw_850) rfl ⟨by decide +kernel, rfl, hl.1, (Nat.le_of_ble_eq_true rfl), ⟨(Nat.le_of_ble_eq_true rfl), (Nat.le_of_ble_eq_true rfl)⟩, ⟨(Nat.le_of_ble_eq_true rfl), (Nat.le_of_ble_eq_true rfl)⟩, rfl, rfl⟩ rfl (mw_h σ th fl dv) rfl dX11_folds_43) (fun u H locs hp hw => ?_)
    have hp := hp.symm
    subst hp
    refine lv_aload_n cx.x cx.b dX11_folds_46 rfl (lv_at hl 0 rfl) ?_
    refine lv_iload_n cx.x cx.b dX11_folds_47 rfl (lv_at hl 1 rfl) ?_
    refine cgo_v cx hw (rV_v (q0 := 0) (n := 1) (As := [.int (nI i)]) (rest := []) cx hw (c_X11_plainFold l D M Q (sBeg 1 3 σ) th fl dv i hi (by show s_N σ + 1 + 1 < 2 ^ 30; omega) ) (gd_V tw_867 tw_869 ts_14 tw_4 tw_870) rfl ⟨by decide +kernel, rfl, hl.1, (Nat.le_of_ble_eq_true rfl), ⟨(Nat.le_of_ble_eq_true rfl), (Nat.le_of_ble_eq_true rfl)⟩, ⟨(Nat.le_of_ble_eq_true rfl), (Nat.le_of_ble_eq_true rfl)⟩, rfl, rfl⟩ rfl (mw_h (sBeg 1 3 σ) th fl dv) rfl dX11_folds_48) (fun u H locs hp hw => ?_)
    have hp := hp.symm
    subst hp
    refine lv_aload_n cx.x cx.b dX11_folds_51 rfl (lv_at hl 0 rfl) ?_
    refine lv_iload_n cx.x cx.b dX11_folds_52 rfl (lv_at hl 1 rfl) ?_
    refine cgo_v cx hw (rV_v (q0 := 0) (n := 1) (As := [.int (nI i)]) (rest := []) cx hw (c_X11_plainFold l D M Q (pF0 i (sBeg 1 3 σ)) th fl dv i hi (by show s_N σ + 1 + 1 + 1 < 2 ^ 30; omega) ) (gd_V tw_867 tw_869 ts_14 tw_4 tw_870) rfl ⟨by decide +kernel, rfl, hl.1, (Nat.le_of_ble_eq_true rfl), ⟨(Nat.le_of_ble_eq_true rfl), (Nat.le_of_ble_eq_true rfl)⟩, ⟨(Nat.le_of_ble_eq_true rfl), (Nat.le_of_ble_eq_true rfl)⟩, rfl, rfl⟩ rfl (mw_h (pF0 i (sBeg 1 3 σ)) th fl dv) rfl dX11_folds_53) (fun u H locs hp hw => ?_)
    have hp := hp.symm
    subst hp
    refine lv_goto (tgt := 125) cx.x cx.b dX11_folds_56 (by decide) ?_
    exact ret_v (pF0 i (pF0 i (sBeg 1 3 σ)), th, fl, dv) cx hw rfl dX11_folds_125 (Nat.le_of_ble_eq_true rfl) (Nat.le_of_ble_eq_true rfl)
  · refine lv_aload_n cx.x cx.b dX11_folds_0 rfl (lv_at hl 0 rfl) ?_
    refine gt_f (v := .ref (M 1)) cx hw 0 (mw_h σ th fl dv) rfl inX11 2 (by decide) tw_759 ⟨rfl, rfl, Or.inl rfl⟩ rfl dX11_folds_1 ?_
    refine lv_iload_n cx.x cx.b dX11_folds_4 rfl (lv_at hl 1 rfl) ?_
    refine ald_i (f := (fun x9 => nI (s_k σ x9))) cx hw 1 0 rfl rfl i rfl hi (by decide) dX11_folds_5 ?_
    rw [h9]
    refine lv_tableIn (tgt := 59) cx.x cx.b dX11_folds_6 (by decide) (by decide) rfl (by decide) ?_
    refine lv_aload_n cx.x cx.b dX11_folds_59 rfl (lv_at hl 0 rfl) ?_
    refine lv_iconst (v := 1) cx.x cx.b dX11_folds_60 (by decide) ?_
    refine lv_iconst (v := 4) cx.x cx.b dX11_folds_61 (by decide) ?_
    refine cgo_v cx hw (rV_v (q0 := 0) (n := 2) (As := [.int 1, .int 4]) (rest := []) cx hw (c_X11_begin l D M Q σ th fl dv (by show s_N σ < 2 ^ 30; omega) 1 4) (gd_V tw_847 tw_849 ts_10 tw_4 tw_850) rfl ⟨by decide +kernel, rfl, hl.1, (Nat.le_of_ble_eq_true rfl), ⟨(Nat.le_of_ble_eq_true rfl), (Nat.le_of_ble_eq_true rfl)⟩, ⟨(Nat.le_of_ble_eq_true rfl), (Nat.le_of_ble_eq_true rfl)⟩, rfl, rfl⟩ rfl (mw_h σ th fl dv) rfl dX11_folds_62) (fun u H locs hp hw => ?_)
    have hp := hp.symm
    subst hp
    refine lv_aload_n cx.x cx.b dX11_folds_65 rfl (lv_at hl 0 rfl) ?_
    refine lv_iload_n cx.x cx.b dX11_folds_66 rfl (lv_at hl 1 rfl) ?_
    refine cgo_v cx hw (rV_v (q0 := 0) (n := 1) (As := [.int (nI i)]) (rest := []) cx hw (c_X11_plainFold l D M Q (sBeg 1 4 σ) th fl dv i hi (by show s_N σ + 1 + 1 < 2 ^ 30; omega) ) (gd_V tw_867 tw_869 ts_14 tw_4 tw_870) rfl ⟨by decide +kernel, rfl, hl.1, (Nat.le_of_ble_eq_true rfl), ⟨(Nat.le_of_ble_eq_true rfl), (Nat.le_of_ble_eq_true rfl)⟩, ⟨(Nat.le_of_ble_eq_true rfl), (Nat.le_of_ble_eq_true rfl)⟩, rfl, rfl⟩ rfl (mw_h (sBeg 1 4 σ) th fl dv) rfl dX11_folds_67) (fun u H locs hp hw => ?_)
    have hp := hp.symm
    subst hp
    refine lv_aload_n cx.x cx.b dX11_folds_70 rfl (lv_at hl 0 rfl) ?_
    refine gt_f (v := .ref (M 5)) cx hw 0 (mw_h (pF0 i (sBeg 1 4 σ)) th fl dv) rfl inX11 6 (by decide) tw_763 ⟨rfl, rfl, Or.inl rfl⟩ rfl dX11_folds_71 ?_
    refine lv_iload_n cx.x cx.b dX11_folds_74 rfl (lv_at hl 1 rfl) ?_
    refine lv_aload_n cx.x cx.b dX11_folds_75 rfl (lv_at hl 0 rfl) ?_
    refine gt_f (v := .ref (M 5)) cx hw 0 (mw_h (pF0 i (sBeg 1 4 σ)) th fl dv) rfl inX11 6 (by decide) tw_763 ⟨rfl, rfl, Or.inl rfl⟩ rfl dX11_folds_76 ?_
    refine lv_iload_n cx.x cx.b dX11_folds_79 rfl (lv_at hl 1 rfl) ?_
    refine ald_i (f := (s_F σ 6)) cx hw 5 0 rfl rfl i rfl hi (by decide) dX11_folds_80 ?_
    refine lv_if_le (tgt := 95) cx.x cx.b dX11_folds_81 (by decide) (fun hb81 => ?_) (fun hb81 => ?_)
    · refine lv_iconst (v := 0) cx.x cx.b dX11_folds_95 (by decide) ?_
      refine ast_i (f := (s_F σ 6)) cx hw 5 0 rfl rfl i rfl hi (by decide) dX11_folds_96 (w1 := mw M Q (sF 6 i 0 (pF0 i (sBeg 1 4 σ)), th, fl, dv)) mw_a5 (fun H locs hw => ?_)
      refine lv_goto (tgt := 125) cx.x cx.b dX11_folds_97 (by decide) ?_
      exact ret_v (sF 6 i 0 (pF0 i (sBeg 1 4 σ)), th, fl, dv) cx hw (by show _ = (sF 6 i (dec0 (s_F σ 6 i)) (pF0 i (sBeg 1 4 σ)), th, fl, dv); rw [← dec0_n hb81]) dX11_folds_125 (Nat.le_of_ble_eq_true rfl) (Nat.le_of_ble_eq_true rfl)
    · refine lv_aload_n cx.x cx.b dX11_folds_84 rfl (lv_at hl 0 rfl) ?_
      refine gt_f (v := .ref (M 5)) cx hw 0 (mw_h (pF0 i (sBeg 1 4 σ)) th fl dv) rfl inX11 6 (by decide) tw_763 ⟨rfl, rfl, Or.inl rfl⟩ rfl dX11_folds_85 ?_
      refine lv_iload_n cx.x cx.b dX11_folds_88 rfl (lv_at hl 1 rfl) ?_
      refine ald_i (f := (s_F σ 6)) cx hw 5 0 rfl rfl i rfl hi (by decide) dX11_folds_89 ?_
      refine lv_iconst (v := 1) cx.x cx.b dX11_folds_90 (by decide) ?_
      refine lv_isub cx.x cx.b dX11_folds_91 ?_
      refine lv_goto (tgt := 96) cx.x cx.b dX11_folds_92 (by decide) ?_
      refine ast_i (f := (s_F σ 6)) cx hw 5 0 rfl rfl i rfl hi (by decide) dX11_folds_96 (w1 := mw M Q (sF 6 i ((s_F σ 6 i) - 1) (pF0 i (sBeg 1 4 σ)), th, fl, dv)) mw_a5 (fun H locs hw => ?_)
      refine lv_goto (tgt := 125) cx.x cx.b dX11_folds_97 (by decide) ?_
      exact ret_v (sF 6 i ((s_F σ 6 i) - 1) (pF0 i (sBeg 1 4 σ)), th, fl, dv) cx hw (by show _ = (sF 6 i (dec0 (s_F σ 6 i)) (pF0 i (sBeg 1 4 σ)), th, fl, dv); rw [← dec0_p hb81]) dX11_folds_125 (Nat.le_of_ble_eq_true rfl) (Nat.le_of_ble_eq_true rfl)
  · refine lv_aload_n cx.x cx.b dX11_folds_0 rfl (lv_at hl 0 rfl) ?_
    refine gt_f (v := .ref (M 1)) cx hw 0 (mw_h σ th fl dv) rfl inX11 2 (by decide) tw_759 ⟨rfl, rfl, Or.inl rfl⟩ rfl dX11_folds_1 ?_
    refine lv_iload_n cx.x cx.b dX11_folds_4 rfl (lv_at hl 1 rfl) ?_
    refine ald_i (f := (fun x9 => nI (s_k σ x9))) cx hw 1 0 rfl rfl i rfl hi (by decide) dX11_folds_5 ?_
    rw [h9]
    refine lv_tableIn (tgt := 40) cx.x cx.b dX11_folds_6 (by decide) (by decide) rfl (by decide) ?_
    refine lv_aload_n cx.x cx.b dX11_folds_40 rfl (lv_at hl 0 rfl) ?_
    refine lv_iconst (v := 1) cx.x cx.b dX11_folds_41 (by decide) ?_
    refine lv_iconst (v := 3) cx.x cx.b dX11_folds_42 (by decide) ?_
    refine cgo_v cx hw (rV_v (q0 := 0) (n := 2) (As := [.int 1, .int 3]) (rest := []) cx hw (c_X11_begin l D M Q σ th fl dv (by show s_N σ < 2 ^ 30; omega) 1 3) (gd_V tw_847 tw_849 ts_10 tw_4 tw_850) rfl ⟨by decide +kernel, rfl, hl.1, (Nat.le_of_ble_eq_true rfl), ⟨(Nat.le_of_ble_eq_true rfl), (Nat.le_of_ble_eq_true rfl)⟩, ⟨(Nat.le_of_ble_eq_true rfl), (Nat.le_of_ble_eq_true rfl)⟩, rfl, rfl⟩ rfl (mw_h σ th fl dv) rfl dX11_folds_43) (fun u H locs hp hw => ?_)
    have hp := hp.symm
    subst hp
    refine lv_aload_n cx.x cx.b dX11_folds_46 rfl (lv_at hl 0 rfl) ?_
    refine lv_iload_n cx.x cx.b dX11_folds_47 rfl (lv_at hl 1 rfl) ?_
    refine cgo_v cx hw (rV_v (q0 := 0) (n := 1) (As := [.int (nI i)]) (rest := []) cx hw (c_X11_plainFold l D M Q (sBeg 1 3 σ) th fl dv i hi (by show s_N σ + 1 + 1 < 2 ^ 30; omega) ) (gd_V tw_867 tw_869 ts_14 tw_4 tw_870) rfl ⟨by decide +kernel, rfl, hl.1, (Nat.le_of_ble_eq_true rfl), ⟨(Nat.le_of_ble_eq_true rfl), (Nat.le_of_ble_eq_true rfl)⟩, ⟨(Nat.le_of_ble_eq_true rfl), (Nat.le_of_ble_eq_true rfl)⟩, rfl, rfl⟩ rfl (mw_h (sBeg 1 3 σ) th fl dv) rfl dX11_folds_48) (fun u H locs hp hw => ?_)
    have hp := hp.symm
    subst hp
    refine lv_aload_n cx.x cx.b dX11_folds_51 rfl (lv_at hl 0 rfl) ?_
    refine lv_iload_n cx.x cx.b dX11_folds_52 rfl (lv_at hl 1 rfl) ?_
    refine cgo_v cx hw (rV_v (q0 := 0) (n := 1) (As := [.int (nI i)]) (rest := []) cx hw (c_X11_plainFold l D M Q (pF0 i (sBeg 1 3 σ)) th fl dv i hi (by show s_N σ + 1 + 1 + 1 < 2 ^ 30; omega) ) (gd_V tw_867 tw_869 ts_14 tw_4 tw_870) rfl ⟨by decide +kernel, rfl, hl.1, (Nat.le_of_ble_eq_true rfl), ⟨(Nat.le_of_ble_eq_true rfl), (Nat.le_of_ble_eq_true rfl)⟩, ⟨(Nat.le_of_ble_eq_true rfl), (Nat.le_of_ble_eq_true rfl)⟩, rfl, rfl⟩ rfl (mw_h (pF0 i (sBeg 1 3 σ)) th fl dv) rfl dX11_folds_53) (fun u H locs hp hw => ?_)
    have hp := hp.symm
    subst hp
    refine lv_goto (tgt := 125) cx.x cx.b dX11_folds_56 (by decide) ?_
    exact ret_v (pF0 i (pF0 i (sBeg 1 3 σ)), th, fl, dv) cx hw rfl dX11_folds_125 (Nat.le_of_ble_eq_true rfl) (Nat.le_of_ble_eq_true rfl)
  · refine lv_aload_n cx.x cx.b dX11_folds_0 rfl (lv_at hl 0 rfl) ?_
    refine gt_f (v := .ref (M 1)) cx hw 0 (mw_h σ th fl dv) rfl inX11 2 (by decide) tw_759 ⟨rfl, rfl, Or.inl rfl⟩ rfl dX11_folds_1 ?_
    refine lv_iload_n cx.x cx.b dX11_folds_4 rfl (lv_at hl 1 rfl) ?_
    refine ald_i (f := (fun x9 => nI (s_k σ x9))) cx hw 1 0 rfl rfl i rfl hi (by decide) dX11_folds_5 ?_
    rw [h9]
    refine lv_tableIn (tgt := 100) cx.x cx.b dX11_folds_6 (by decide) (by decide) rfl (by decide) ?_
    refine lv_aload_n cx.x cx.b dX11_folds_100 rfl (lv_at hl 0 rfl) ?_
    refine lv_iconst (v := 1) cx.x cx.b dX11_folds_101 (by decide) ?_
    refine lv_bipush (v := 6) cx.x cx.b dX11_folds_102 (by decide) ?_
    refine cgo_v cx hw (rV_v (q0 := 0) (n := 2) (As := [.int 1, .int 6]) (rest := []) cx hw (c_X11_begin l D M Q σ th fl dv (by show s_N σ < 2 ^ 30; omega) 1 6) (gd_V tw_847 tw_849 ts_10 tw_4 tw_850) rfl ⟨by decide +kernel, rfl, hl.1, (Nat.le_of_ble_eq_true rfl), ⟨(Nat.le_of_ble_eq_true rfl), (Nat.le_of_ble_eq_true rfl)⟩, ⟨(Nat.le_of_ble_eq_true rfl), (Nat.le_of_ble_eq_true rfl)⟩, rfl, rfl⟩ rfl (mw_h σ th fl dv) rfl dX11_folds_104) (fun u H locs hp hw => ?_)
    have hp := hp.symm
    subst hp
    refine lv_aload_n cx.x cx.b dX11_folds_107 rfl (lv_at hl 0 rfl) ?_
    refine gt_f (v := .ref (M 4)) cx hw 0 (mw_h (sBeg 1 6 σ) th fl dv) rfl inX11 5 (by decide) tw_762 ⟨rfl, rfl, Or.inl rfl⟩ rfl dX11_folds_108 ?_
    refine lv_iload_n cx.x cx.b dX11_folds_111 rfl (lv_at hl 1 rfl) ?_
    refine lv_dup2_11 cx.x cx.b dX11_folds_112 rfl rfl ?_
    refine ald_i (f := (s_F σ 5)) cx hw 4 0 rfl rfl i rfl hi (by decide) dX11_folds_113 ?_
    refine lv_iconst (v := 1) cx.x cx.b dX11_folds_114 (by decide) ?_
    refine lv_iadd cx.x cx.b dX11_folds_115 ?_
    refine ast_i (f := (s_F σ 5)) cx hw 4 0 rfl rfl i rfl hi (by decide) dX11_folds_116 (w1 := mw M Q (sF 5 i ((s_F σ 5 i) + 1) (sBeg 1 6 σ), th, fl, dv)) mw_a4 (fun H locs hw => ?_)
    refine lv_goto (tgt := 125) cx.x cx.b dX11_folds_117 (by decide) ?_
    exact ret_v (sF 5 i ((s_F σ 5 i) + 1) (sBeg 1 6 σ), th, fl, dv) cx hw rfl dX11_folds_125 (Nat.le_of_ble_eq_true rfl) (Nat.le_of_ble_eq_true rfl)
  · refine lv_aload_n cx.x cx.b dX11_folds_0 rfl (lv_at hl 0 rfl) ?_
    refine gt_f (v := .ref (M 1)) cx hw 0 (mw_h σ th fl dv) rfl inX11 2 (by decide) tw_759 ⟨rfl, rfl, Or.inl rfl⟩ rfl dX11_folds_1 ?_
    refine lv_iload_n cx.x cx.b dX11_folds_4 rfl (lv_at hl 1 rfl) ?_
    refine ald_i (f := (fun x9 => nI (s_k σ x9))) cx hw 1 0 rfl rfl i rfl hi (by decide) dX11_folds_5 ?_
    rw [h9]
    refine lv_tableIn (tgt := 59) cx.x cx.b dX11_folds_6 (by decide) (by decide) rfl (by decide) ?_
    refine lv_aload_n cx.x cx.b dX11_folds_59 rfl (lv_at hl 0 rfl) ?_
    refine lv_iconst (v := 1) cx.x cx.b dX11_folds_60 (by decide) ?_
    refine lv_iconst (v := 4) cx.x cx.b dX11_folds_61 (by decide) ?_
    refine cgo_v cx hw (rV_v (q0 := 0) (n := 2) (As := [.int 1, .int 4]) (rest := []) cx hw (c_X11_begin l D M Q σ th fl dv (by show s_N σ < 2 ^ 30; omega) 1 4) (gd_V tw_847 tw_849 ts_10 tw_4 tw_850) rfl ⟨by decide +kernel, rfl, hl.1, (Nat.le_of_ble_eq_true rfl), ⟨(Nat.le_of_ble_eq_true rfl), (Nat.le_of_ble_eq_true rfl)⟩, ⟨(Nat.le_of_ble_eq_true rfl), (Nat.le_of_ble_eq_true rfl)⟩, rfl, rfl⟩ rfl (mw_h σ th fl dv) rfl dX11_folds_62) (fun u H locs hp hw => ?_)
    have hp := hp.symm
    subst hp
    refine lv_aload_n cx.x cx.b dX11_folds_65 rfl (lv_at hl 0 rfl) ?_
    refine lv_iload_n cx.x cx.b dX11_folds_66 rfl (lv_at hl 1 rfl) ?_
    refine cgo_v cx hw (rV_v (q0 := 0) (n := 1) (As := [.int (nI i)]) (rest := []) cx hw (c_X11_plainFold l D M Q (sBeg 1 4 σ) th fl dv i hi (by show s_N σ + 1 + 1 < 2 ^ 30; omega) ) (gd_V tw_867 tw_869 ts_14 tw_4 tw_870) rfl ⟨by decide +kernel, rfl, hl.1, (Nat.le_of_ble_eq_true rfl), ⟨(Nat.le_of_ble_eq_true rfl), (Nat.le_of_ble_eq_true rfl)⟩, ⟨(Nat.le_of_ble_eq_true rfl), (Nat.le_of_ble_eq_true rfl)⟩, rfl, rfl⟩ rfl (mw_h (sBeg 1 4 σ) th fl dv) rfl dX11_folds_67) (fun u H locs hp hw => ?_)
    have hp := hp.symm
    subst hp
    refine lv_aload_n cx.x cx.b dX11_folds_70 rfl (lv_at hl 0 rfl) ?_
    refine gt_f (v := .ref (M 5)) cx hw 0 (mw_h (pF0 i (sBeg 1 4 σ)) th fl dv) rfl inX11 6 (by decide) tw_763 ⟨rfl, rfl, Or.inl rfl⟩ rfl dX11_folds_71 ?_
    refine lv_iload_n cx.x cx.b dX11_folds_74 rfl (lv_at hl 1 rfl) ?_
    refine lv_aload_n cx.x cx.b dX11_folds_75 rfl (lv_at hl 0 rfl) ?_
    refine gt_f (v := .ref (M 5)) cx hw 0 (mw_h (pF0 i (sBeg 1 4 σ)) th fl dv) rfl inX11 6 (by decide) tw_763 ⟨rfl, rfl, Or.inl rfl⟩ rfl dX11_folds_76 ?_
    refine lv_iload_n cx.x cx.b dX11_folds_79 rfl (lv_at hl 1 rfl) ?_
    refine ald_i (f := (s_F σ 6)) cx hw 5 0 rfl rfl i rfl hi (by decide) dX11_folds_80 ?_
    refine lv_if_le (tgt := 95) cx.x cx.b dX11_folds_81 (by decide) (fun hb81 => ?_) (fun hb81 => ?_)
    · refine lv_iconst (v := 0) cx.x cx.b dX11_folds_95 (by decide) ?_
      refine ast_i (f := (s_F σ 6)) cx hw 5 0 rfl rfl i rfl hi (by decide) dX11_folds_96 (w1 := mw M Q (sF 6 i 0 (pF0 i (sBeg 1 4 σ)), th, fl, dv)) mw_a5 (fun H locs hw => ?_)
      refine lv_goto (tgt := 125) cx.x cx.b dX11_folds_97 (by decide) ?_
      exact ret_v (sF 6 i 0 (pF0 i (sBeg 1 4 σ)), th, fl, dv) cx hw (by show _ = (sF 6 i (dec0 (s_F σ 6 i)) (pF0 i (sBeg 1 4 σ)), th, fl, dv); rw [← dec0_n hb81]) dX11_folds_125 (Nat.le_of_ble_eq_true rfl) (Nat.le_of_ble_eq_true rfl)
    · refine lv_aload_n cx.x cx.b dX11_folds_84 rfl (lv_at hl 0 rfl) ?_
      refine gt_f (v := .ref (M 5)) cx hw 0 (mw_h (pF0 i (sBeg 1 4 σ)) th fl dv) rfl inX11 6 (by decide) tw_763 ⟨rfl, rfl, Or.inl rfl⟩ rfl dX11_folds_85 ?_
      refine lv_iload_n cx.x cx.b dX11_folds_88 rfl (lv_at hl 1 rfl) ?_
      refine ald_i (f := (s_F σ 6)) cx hw 5 0 rfl rfl i rfl hi (by decide) dX11_folds_89 ?_
      refine lv_iconst (v := 1) cx.x cx.b dX11_folds_90 (by decide) ?_
      refine lv_isub cx.x cx.b dX11_folds_91 ?_
      refine lv_goto (tgt := 96) cx.x cx.b dX11_folds_92 (by decide) ?_
      refine ast_i (f := (s_F σ 6)) cx hw 5 0 rfl rfl i rfl hi (by decide) dX11_folds_96 (w1 := mw M Q (sF 6 i ((s_F σ 6 i) - 1) (pF0 i (sBeg 1 4 σ)), th, fl, dv)) mw_a5 (fun H locs hw => ?_)
      refine lv_goto (tgt := 125) cx.x cx.b dX11_folds_97 (by decide) ?_
      exact ret_v (sF 6 i ((s_F σ 6 i) - 1) (pF0 i (sBeg 1 4 σ)), th, fl, dv) cx hw (by show _ = (sF 6 i (dec0 (s_F σ 6 i)) (pF0 i (sBeg 1 4 σ)), th, fl, dv); rw [← dec0_p hb81]) dX11_folds_125 (Nat.le_of_ble_eq_true rfl) (Nat.le_of_ble_eq_true rfl)
set_option maxHeartbeats 4000000 in
set_option maxRecDepth 100000 in
theorem c_X11_plainBake (l : Launch) (D : va_G) (M : Nat → Nat) (Q : Nat → ClassId) (σ : St) (th fl dv : Int32) (i : Nat) (hi : i < 20) (hb : s_N σ + 1 < 2 ^ 30) (ht : Int32) : MI l yX11_plainBake cX11_plainBake 3 .boolean ({ frames := 1, cells := 0, slots := 0, locals := 22 }) D cls (tyl Q) [.ref (M 0), .int (nI i), .int ht] (mw M Q) (mw M Q (σ, th, fl, dv)) (fun r u => r = b01 (20 ≤ s_F (pB0 i ht σ) 7 i) ∧ u = (pB0 i ht σ, th, fl, dv)) 0 0 := by
  refine MI_of (by decide) (Nat.le_of_ble_eq_true rfl) ?_
  intro p e s m args below meth c A ls cx hw hl
  have hl : lv_has ls 3 [(0, .ref (M 0)), (1, .int (nI i)), (2, .int ht)] := hl
  refine lv_aload_n cx.x cx.b dX11_plainBake_0 rfl (lv_at hl 0 rfl) ?_
  refine lv_iconst (v := 3) cx.x cx.b dX11_plainBake_1 (by decide) ?_
  refine lv_iconst (v := 0) cx.x cx.b dX11_plainBake_2 (by decide) ?_
  refine cgo_v cx hw (rV_v (q0 := 0) (n := 2) (As := [.int 3, .int 0]) (rest := []) cx hw (c_X11_begin l D M Q σ th fl dv (by show s_N σ < 2 ^ 30; omega) 3 0) (gd_V tw_847 tw_849 ts_10 tw_4 tw_850) rfl ⟨by decide +kernel, rfl, hl.1, (Nat.le_of_ble_eq_true rfl), ⟨(Nat.le_of_ble_eq_true rfl), (Nat.le_of_ble_eq_true rfl)⟩, ⟨(Nat.le_of_ble_eq_true rfl), (Nat.le_of_ble_eq_true rfl)⟩, rfl, rfl⟩ rfl (mw_h σ th fl dv) rfl dX11_plainBake_3) (fun u H locs hp hw => ?_)
  have hp := hp.symm
  subst hp
  refine lv_aload_n cx.x cx.b dX11_plainBake_6 rfl (lv_at hl 0 rfl) ?_
  refine gt_f (v := .ref (M 6)) cx hw 0 (mw_h (sBeg 3 0 σ) th fl dv) rfl inX11 7 (by decide) tw_764 ⟨rfl, rfl, Or.inl rfl⟩ rfl dX11_plainBake_7 ?_
  refine lv_iload_n cx.x cx.b dX11_plainBake_10 rfl (lv_at hl 1 rfl) ?_
  refine lv_dup2_11 cx.x cx.b dX11_plainBake_11 rfl rfl ?_
  refine ald_i (f := (s_F σ 7)) cx hw 6 0 rfl rfl i rfl hi (by decide) dX11_plainBake_12 ?_
  refine lv_iload_n cx.x cx.b dX11_plainBake_13 rfl (lv_at hl 2 rfl) ?_
  refine lv_aload_n cx.x cx.b dX11_plainBake_14 rfl (lv_at hl 0 rfl) ?_
  refine gt_f (v := .ref (M 3)) cx hw 0 (mw_h (sBeg 3 0 σ) th fl dv) rfl inX11 4 (by decide) tw_761 ⟨rfl, rfl, Or.inl rfl⟩ rfl dX11_plainBake_15 ?_
  refine lv_iload_n cx.x cx.b dX11_plainBake_18 rfl (lv_at hl 1 rfl) ?_
  refine ald_i (f := (s_F σ 4)) cx hw 3 0 rfl rfl i rfl hi (by decide) dX11_plainBake_19 ?_
  refine lv_iadd cx.x cx.b dX11_plainBake_20 ?_
  refine lv_bipush (v := 10) cx.x cx.b dX11_plainBake_21 (by decide) ?_
  refine lv_idiv cx.x cx.b dX11_plainBake_23 (by decide) ?_
  refine lv_iadd cx.x cx.b dX11_plainBake_24 ?_
  refine ast_i (f := (s_F σ 7)) cx hw 6 0 rfl rfl i rfl hi (by decide) dX11_plainBake_25 (w1 := mw M Q (sF 7 i ((s_F σ 7 i) + ((ht + (s_F σ 4 i)) / 10)) (sBeg 3 0 σ), th, fl, dv)) mw_a6 (fun H locs hw => ?_)
  refine lv_aload_n cx.x cx.b dX11_plainBake_26 rfl (lv_at hl 0 rfl) ?_
  refine gt_f (v := .ref (M 6)) cx hw 0 (mw_h (sF 7 i ((s_F σ 7 i) + ((ht + (s_F σ 4 i)) / 10)) (sBeg 3 0 σ)) th fl dv) rfl inX11 7 (by decide) tw_764 ⟨rfl, rfl, Or.inl rfl⟩ rfl dX11_plainBake_27 ?_
  refine lv_iload_n cx.x cx.b dX11_plainBake_30 rfl (lv_at hl 1 rfl) ?_
  refine ald_i (f := (s_F (sF 7 i ((s_F σ 7 i) + ((ht + (s_F σ 4 i)) / 10)) (sBeg 3 0 σ)) 7)) cx hw 6 0 rfl rfl i rfl hi (by decide) dX11_plainBake_31 ?_
  refine lv_bipush (v := 20) cx.x cx.b dX11_plainBake_32 (by decide) ?_
  refine lv_icmp_lt (tgt := 41) cx.x cx.b dX11_plainBake_34 (by decide) (fun hb34 => ?_) (fun hb34 => ?_)
  · refine lv_iconst (v := 0) cx.x cx.b dX11_plainBake_41 (by decide) ?_
    exact ret_z (sF 7 i ((s_F σ 7 i) + ((ht + (s_F σ 4 i)) / 10)) (sBeg 3 0 σ), th, fl, dv) cx hw rfl ⟨b01_0 (Int32.not_le.mpr hb34), rfl⟩ dX11_plainBake_42 (Nat.le_of_ble_eq_true rfl) (Nat.le_of_ble_eq_true rfl)
  · refine lv_iconst (v := 1) cx.x cx.b dX11_plainBake_37 (by decide) ?_
    refine lv_goto (tgt := 42) cx.x cx.b dX11_plainBake_38 (by decide) ?_
    exact ret_z (sF 7 i ((s_F σ 7 i) + ((ht + (s_F σ 4 i)) / 10)) (sBeg 3 0 σ), th, fl, dv) cx hw rfl ⟨b01_1 (Int32.not_lt.mp hb34), rfl⟩ dX11_plainBake_42 (Nat.le_of_ble_eq_true rfl) (Nat.le_of_ble_eq_true rfl)
set_option maxHeartbeats 4000000 in
set_option maxRecDepth 100000 in
theorem c_X11_bakes (l : Launch) (D : va_G) (M : Nat → Nat) (Q : Nat → ClassId) (σ : St) (th fl dv : Int32) (i : Nat) (hi : i < 20) (hb : s_N σ + 3 < 2 ^ 30) (hd : s_k σ i < 8) (ht : Int32) : MI l yX11_bakes cX11_bakes 4 .boolean ({ frames := 2, cells := 0, slots := 0, locals := 44 }) D cls (tyl Q) [.ref (M 0), .int (nI i), .int ht] (mw M Q) (mw M Q (σ, th, fl, dv)) (fun r u => r = vBake (s_k σ i) i ht σ ∧ u = (rBake (s_k σ i) i ht σ, th, fl, dv)) 0 0 := by
  refine MI_of (by decide) (Nat.le_of_ble_eq_true rfl) ?_
  intro p e s m args below meth c A ls cx hw hl
  have hl : lv_has ls 4 [(0, .ref (M 0)), (1, .int (nI i)), (2, .int ht)] := hl
  rcases (show s_k σ i = 0 ∨ s_k σ i = 1 ∨ s_k σ i = 2 ∨ s_k σ i = 3 ∨ s_k σ i = 4 ∨ s_k σ i = 5 ∨ s_k σ i = 6 ∨ s_k σ i = 7 by omega) with h9 | h9 | h9 | h9 | h9 | h9 | h9 | h9
  · refine lv_aload_n cx.x cx.b dX11_bakes_0 rfl (lv_at hl 0 rfl) ?_
    refine gt_f (v := .ref (M 1)) cx hw 0 (mw_h σ th fl dv) rfl inX11 2 (by decide) tw_759 ⟨rfl, rfl, Or.inl rfl⟩ rfl dX11_bakes_1 ?_
    refine lv_iload_n cx.x cx.b dX11_bakes_4 rfl (lv_at hl 1 rfl) ?_
    refine ald_i (f := (fun x9 => nI (s_k σ x9))) cx hw 1 0 rfl rfl i rfl hi (by decide) dX11_bakes_5 ?_
    rw [h9]
    refine lv_tableOut (tgt := 152) cx.x cx.b dX11_bakes_6 (by decide) (by decide) ?_
    refine lv_aload_n cx.x cx.b dX11_bakes_152 rfl (lv_at hl 0 rfl) ?_
    refine lv_iload_n cx.x cx.b dX11_bakes_153 rfl (lv_at hl 1 rfl) ?_
    refine lv_iload_n cx.x cx.b dX11_bakes_154 rfl (lv_at hl 2 rfl) ?_
    refine cgo_i cx hw (rV_i (q0 := 0) (n := 2) (As := [.int (nI i), .int ht]) (rest := []) cx hw (c_X11_plainBake l D M Q σ th fl dv i hi (by show s_N σ + 1 < 2 ^ 30; omega) ht) (gd_V tw_891 tw_893 ts_18 tw_4 tw_894) rfl ⟨by decide +kernel, rfl, hl.1, (Nat.le_of_ble_eq_true rfl), ⟨(Nat.le_of_ble_eq_true rfl), (Nat.le_of_ble_eq_true rfl)⟩, ⟨(Nat.le_of_ble_eq_true rfl), (Nat.le_of_ble_eq_true rfl)⟩, rfl, rfl⟩ rfl (mw_h σ th fl dv) rfl dX11_bakes_155) (fun r u H locs hp hw => ?_)
    obtain ⟨h8, h9⟩ := hp
    have h8 := h8.symm
    have h9 := h9.symm
    subst h8
    subst h9
    exact ret_z (pB0 i ht σ, th, fl, dv) cx hw b01_nar ⟨rfl, rfl⟩ dX11_bakes_158 (Nat.le_of_ble_eq_true rfl) (Nat.le_of_ble_eq_true rfl)
  · refine lv_aload_n cx.x cx.b dX11_bakes_0 rfl (lv_at hl 0 rfl) ?_
    refine gt_f (v := .ref (M 1)) cx hw 0 (mw_h σ th fl dv) rfl inX11 2 (by decide) tw_759 ⟨rfl, rfl, Or.inl rfl⟩ rfl dX11_bakes_1 ?_
    refine lv_iload_n cx.x cx.b dX11_bakes_4 rfl (lv_at hl 1 rfl) ?_
    refine ald_i (f := (fun x9 => nI (s_k σ x9))) cx hw 1 0 rfl rfl i rfl hi (by decide) dX11_bakes_5 ?_
    rw [h9]
    refine lv_tableOut (tgt := 152) cx.x cx.b dX11_bakes_6 (by decide) (by decide) ?_
    refine lv_aload_n cx.x cx.b dX11_bakes_152 rfl (lv_at hl 0 rfl) ?_
    refine lv_iload_n cx.x cx.b dX11_bakes_153 rfl (lv_at hl 1 rfl) ?_
    refine lv_iload_n cx.x cx.b dX11_bakes_154 rfl (lv_at hl 2 rfl) ?_
    refine cgo_i cx hw (rV_i (q0 := 0) (n := 2) (As := [.int (nI i), .int ht]) (rest := []) cx hw (c_X11_plainBake l D M Q σ th fl dv i hi (by show s_N σ + 1 < 2 ^ 30; omega) ht) (gd_V tw_891 tw_893 ts_18 tw_4 tw_894) rfl ⟨by decide +kernel, rfl, hl.1, (Nat.le_of_ble_eq_true rfl), ⟨(Nat.le_of_ble_eq_true rfl), (Nat.le_of_ble_eq_true rfl)⟩, ⟨(Nat.le_of_ble_eq_true rfl), (Nat.le_of_ble_eq_true rfl)⟩, rfl, rfl⟩ rfl (mw_h σ th fl dv) rfl dX11_bakes_155) (fun r u H locs hp hw => ?_)
    obtain ⟨h8, h9⟩ := hp
    have h8 := h8.symm
    have h9 := h9.symm
    subst h8
    subst h9
    exact ret_z (pB0 i ht σ, th, fl, dv) cx hw b01_nar ⟨rfl, rfl⟩ dX11_bakes_158 (Nat.le_of_ble_eq_true rfl) (Nat.le_of_ble_eq_true rfl)
  · refine lv_aload_n cx.x cx.b dX11_bakes_0 rfl (lv_at hl 0 rfl) ?_
    refine gt_f (v := .ref (M 1)) cx hw 0 (mw_h σ th fl dv) rfl inX11 2 (by decide) tw_759 ⟨rfl, rfl, Or.inl rfl⟩ rfl dX11_bakes_1 ?_
    refine lv_iload_n cx.x cx.b dX11_bakes_4 rfl (lv_at hl 1 rfl) ?_
    refine ald_i (f := (fun x9 => nI (s_k σ x9))) cx hw 1 0 rfl rfl i rfl hi (by decide) dX11_bakes_5 ?_
    rw [h9]
    refine lv_tableIn (tgt := 44) cx.x cx.b dX11_bakes_6 (by decide) (by decide) rfl (by decide) ?_
    refine lv_aload_n cx.x cx.b dX11_bakes_44 rfl (lv_at hl 0 rfl) ?_
    refine lv_iconst (v := 3) cx.x cx.b dX11_bakes_45 (by decide) ?_
    refine lv_iconst (v := 2) cx.x cx.b dX11_bakes_46 (by decide) ?_
    refine cgo_v cx hw (rV_v (q0 := 0) (n := 2) (As := [.int 3, .int 2]) (rest := []) cx hw (c_X11_begin l D M Q σ th fl dv (by show s_N σ < 2 ^ 30; omega) 3 2) (gd_V tw_847 tw_849 ts_10 tw_4 tw_850) rfl ⟨by decide +kernel, rfl, hl.1, (Nat.le_of_ble_eq_true rfl), ⟨(Nat.le_of_ble_eq_true rfl), (Nat.le_of_ble_eq_true rfl)⟩, ⟨(Nat.le_of_ble_eq_true rfl), (Nat.le_of_ble_eq_true rfl)⟩, rfl, rfl⟩ rfl (mw_h σ th fl dv) rfl dX11_bakes_47) (fun u H locs hp hw => ?_)
    have hp := hp.symm
    subst hp
    refine lv_aload_n cx.x cx.b dX11_bakes_50 rfl (lv_at hl 0 rfl) ?_
    refine lv_iload_n cx.x cx.b dX11_bakes_51 rfl (lv_at hl 1 rfl) ?_
    refine lv_iload_n cx.x cx.b dX11_bakes_52 rfl (lv_at hl 2 rfl) ?_
    refine lv_bipush (v := 30) cx.x cx.b dX11_bakes_53 (by decide) ?_
    refine lv_isub cx.x cx.b dX11_bakes_55 ?_
    refine cgo_i cx hw (rV_i (q0 := 0) (n := 2) (As := [.int (nI i), .int (ht - 30)]) (rest := []) cx hw (c_X11_plainBake l D M Q (sBeg 3 2 σ) th fl dv i hi (by show s_N σ + 1 + 1 < 2 ^ 30; omega) (ht - 30)) (gd_V tw_891 tw_893 ts_18 tw_4 tw_894) rfl ⟨by decide +kernel, rfl, hl.1, (Nat.le_of_ble_eq_true rfl), ⟨(Nat.le_of_ble_eq_true rfl), (Nat.le_of_ble_eq_true rfl)⟩, ⟨(Nat.le_of_ble_eq_true rfl), (Nat.le_of_ble_eq_true rfl)⟩, rfl, rfl⟩ rfl (mw_h (sBeg 3 2 σ) th fl dv) rfl dX11_bakes_56) (fun r u H locs hp hw => ?_)
    obtain ⟨h8, h9⟩ := hp
    have h8 := h8.symm
    have h9 := h9.symm
    subst h8
    subst h9
    exact ret_z (pB0 i (ht - 30) (sBeg 3 2 σ), th, fl, dv) cx hw b01_nar ⟨rfl, rfl⟩ dX11_bakes_59 (Nat.le_of_ble_eq_true rfl) (Nat.le_of_ble_eq_true rfl)
  · refine lv_aload_n cx.x cx.b dX11_bakes_0 rfl (lv_at hl 0 rfl) ?_
    refine gt_f (v := .ref (M 1)) cx hw 0 (mw_h σ th fl dv) rfl inX11 2 (by decide) tw_759 ⟨rfl, rfl, Or.inl rfl⟩ rfl dX11_bakes_1 ?_
    refine lv_iload_n cx.x cx.b dX11_bakes_4 rfl (lv_at hl 1 rfl) ?_
    refine ald_i (f := (fun x9 => nI (s_k σ x9))) cx hw 1 0 rfl rfl i rfl hi (by decide) dX11_bakes_5 ?_
    rw [h9]
    refine lv_tableIn (tgt := 60) cx.x cx.b dX11_bakes_6 (by decide) (by decide) rfl (by decide) ?_
    refine lv_aload_n cx.x cx.b dX11_bakes_60 rfl (lv_at hl 0 rfl) ?_
    refine lv_iconst (v := 3) cx.x cx.b dX11_bakes_61 (by decide) ?_
    refine lv_iconst (v := 3) cx.x cx.b dX11_bakes_62 (by decide) ?_
    refine cgo_v cx hw (rV_v (q0 := 0) (n := 2) (As := [.int 3, .int 3]) (rest := []) cx hw (c_X11_begin l D M Q σ th fl dv (by show s_N σ < 2 ^ 30; omega) 3 3) (gd_V tw_847 tw_849 ts_10 tw_4 tw_850) rfl ⟨by decide +kernel, rfl, hl.1, (Nat.le_of_ble_eq_true rfl), ⟨(Nat.le_of_ble_eq_true rfl), (Nat.le_of_ble_eq_true rfl)⟩, ⟨(Nat.le_of_ble_eq_true rfl), (Nat.le_of_ble_eq_true rfl)⟩, rfl, rfl⟩ rfl (mw_h σ th fl dv) rfl dX11_bakes_63) (fun u H locs hp hw => ?_)
    have hp := hp.symm
    subst hp
    refine lv_aload_n cx.x cx.b dX11_bakes_66 rfl (lv_at hl 0 rfl) ?_
    refine lv_iload_n cx.x cx.b dX11_bakes_67 rfl (lv_at hl 1 rfl) ?_
    refine lv_iload_n cx.x cx.b dX11_bakes_68 rfl (lv_at hl 2 rfl) ?_
    refine cgo_i cx hw (rV_i (q0 := 0) (n := 2) (As := [.int (nI i), .int ht]) (rest := []) cx hw (c_X11_plainBake l D M Q (sBeg 3 3 σ) th fl dv i hi (by show s_N σ + 1 + 1 < 2 ^ 30; omega) ht) (gd_V tw_891 tw_893 ts_18 tw_4 tw_894) rfl ⟨by decide +kernel, rfl, hl.1, (Nat.le_of_ble_eq_true rfl), ⟨(Nat.le_of_ble_eq_true rfl), (Nat.le_of_ble_eq_true rfl)⟩, ⟨(Nat.le_of_ble_eq_true rfl), (Nat.le_of_ble_eq_true rfl)⟩, rfl, rfl⟩ rfl (mw_h (sBeg 3 3 σ) th fl dv) rfl dX11_bakes_69) (fun r u H locs hp hw => ?_)
    obtain ⟨h8, h9⟩ := hp
    have h8 := h8.symm
    have h9 := h9.symm
    subst h8
    subst h9
    refine lv_istore_n (lv' := [(3, .int (b01 (20 ≤ s_F (pB0 i ht (sBeg 3 3 σ)) 7 i))), (0, .ref (M 0)), (1, .int (nI i)), (2, .int ht)]) cx.x cx.b dX11_bakes_72 rfl hl (by decide) rfl (fun ls hl => ?_)
    refine lv_iload_n cx.x cx.b dX11_bakes_73 rfl (lv_at hl 0 rfl) ?_
    refine lv_if_eq (tgt := 92) cx.x cx.b dX11_bakes_74 (by decide) (fun hb74 => ?_) (fun hb74 => ?_)
    · refine lv_iconst (v := 0) cx.x cx.b dX11_bakes_92 (by decide) ?_
      exact ret_z (pB0 i ht (sBeg 3 3 σ), th, fl, dv) cx hw rfl ⟨b01_0 (fun h => b01_eq0.mp hb74 h.1), rfl⟩ dX11_bakes_93 (Nat.le_of_ble_eq_true rfl) (Nat.le_of_ble_eq_true rfl)
    · refine lv_aload_n cx.x cx.b dX11_bakes_77 rfl (lv_at hl 1 rfl) ?_
      refine gt_f (v := .ref (M 6)) cx hw 0 (mw_h (pB0 i ht (sBeg 3 3 σ)) th fl dv) rfl inX11 7 (by decide) tw_764 ⟨rfl, rfl, Or.inl rfl⟩ rfl dX11_bakes_78 ?_
      refine lv_iload_n cx.x cx.b dX11_bakes_81 rfl (lv_at hl 2 rfl) ?_
      refine ald_i (f := (s_F (pB0 i ht (sBeg 3 3 σ)) 7)) cx hw 6 0 rfl rfl i rfl hi (by decide) dX11_bakes_82 ?_
      refine lv_bipush (v := 60) cx.x cx.b dX11_bakes_83 (by decide) ?_
      refine lv_icmp_gt (tgt := 92) cx.x cx.b dX11_bakes_85 (by decide) (fun hb85 => ?_) (fun hb85 => ?_)
      · refine lv_iconst (v := 0) cx.x cx.b dX11_bakes_92 (by decide) ?_
        exact ret_z (pB0 i ht (sBeg 3 3 σ), th, fl, dv) cx hw rfl ⟨b01_0 (fun h => Int32.not_le.mpr hb85 h.2), rfl⟩ dX11_bakes_93 (Nat.le_of_ble_eq_true rfl) (Nat.le_of_ble_eq_true rfl)
      · refine lv_iconst (v := 1) cx.x cx.b dX11_bakes_88 (by decide) ?_
        refine lv_goto (tgt := 93) cx.x cx.b dX11_bakes_89 (by decide) ?_
        exact ret_z (pB0 i ht (sBeg 3 3 σ), th, fl, dv) cx hw rfl ⟨b01_1 ⟨Decidable.not_not.mp (fun h => hb74 (b01_eq0.mpr h)), Int32.not_lt.mp hb85⟩, rfl⟩ dX11_bakes_93 (Nat.le_of_ble_eq_true rfl) (Nat.le_of_ble_eq_true rfl)
  · refine lv_aload_n cx.x cx.b dX11_bakes_0 rfl (lv_at hl 0 rfl) ?_
    refine gt_f (v := .ref (M 1)) cx hw 0 (mw_h σ th fl dv) rfl inX11 2 (by decide) tw_759 ⟨rfl, rfl, Or.inl rfl⟩ rfl dX11_bakes_1 ?_
    refine lv_iload_n cx.x cx.b dX11_bakes_4 rfl (lv_at hl 1 rfl) ?_
    refine ald_i (f := (fun x9 => nI (s_k σ x9))) cx hw 1 0 rfl rfl i rfl hi (by decide) dX11_bakes_5 ?_
    rw [h9]
    refine lv_tableIn (tgt := 94) cx.x cx.b dX11_bakes_6 (by decide) (by decide) rfl (by decide) ?_
    refine lv_aload_n cx.x cx.b dX11_bakes_94 rfl (lv_at hl 0 rfl) ?_
    refine lv_iconst (v := 3) cx.x cx.b dX11_bakes_95 (by decide) ?_
    refine lv_iconst (v := 4) cx.x cx.b dX11_bakes_96 (by decide) ?_
    refine cgo_v cx hw (rV_v (q0 := 0) (n := 2) (As := [.int 3, .int 4]) (rest := []) cx hw (c_X11_begin l D M Q σ th fl dv (by show s_N σ < 2 ^ 30; omega) 3 4) (gd_V tw_847 tw_849 ts_10 tw_4 tw_850) rfl ⟨by decide +kernel, rfl, hl.1, (Nat.le_of_ble_eq_true rfl), ⟨(Nat.le_of_ble_eq_true rfl), (Nat.le_of_ble_eq_true rfl)⟩, ⟨(Nat.le_of_ble_eq_true rfl), (Nat.le_of_ble_eq_true rfl)⟩, rfl, rfl⟩ rfl (mw_h σ th fl dv) rfl dX11_bakes_97) (fun u H locs hp hw => ?_)
    have hp := hp.symm
    subst hp
    refine lv_aload_n cx.x cx.b dX11_bakes_100 rfl (lv_at hl 0 rfl) ?_
    refine lv_iconst (v := 3) cx.x cx.b dX11_bakes_101 (by decide) ?_
    refine lv_iconst (v := 2) cx.x cx.b dX11_bakes_102 (by decide) ?_
    refine cgo_v cx hw (rV_v (q0 := 0) (n := 2) (As := [.int 3, .int 2]) (rest := []) cx hw (c_X11_begin l D M Q (sBeg 3 4 σ) th fl dv (by show s_N σ + 1 < 2 ^ 30; omega) 3 2) (gd_V tw_847 tw_849 ts_10 tw_4 tw_850) rfl ⟨by decide +kernel, rfl, hl.1, (Nat.le_of_ble_eq_true rfl), ⟨(Nat.le_of_ble_eq_true rfl), (Nat.le_of_ble_eq_true rfl)⟩, ⟨(Nat.le_of_ble_eq_true rfl), (Nat.le_of_ble_eq_true rfl)⟩, rfl, rfl⟩ rfl (mw_h (sBeg 3 4 σ) th fl dv) rfl dX11_bakes_103) (fun u H locs hp hw => ?_)
    have hp := hp.symm
    subst hp
    refine lv_aload_n cx.x cx.b dX11_bakes_106 rfl (lv_at hl 0 rfl) ?_
    refine lv_iload_n cx.x cx.b dX11_bakes_107 rfl (lv_at hl 1 rfl) ?_
    refine lv_iload_n cx.x cx.b dX11_bakes_108 rfl (lv_at hl 2 rfl) ?_
    refine lv_bipush (v := 30) cx.x cx.b dX11_bakes_109 (by decide) ?_
    refine lv_isub cx.x cx.b dX11_bakes_111 ?_
    refine cgo_i cx hw (rV_i (q0 := 0) (n := 2) (As := [.int (nI i), .int (ht - 30)]) (rest := []) cx hw (c_X11_plainBake l D M Q (sBeg 3 2 (sBeg 3 4 σ)) th fl dv i hi (by show s_N σ + 1 + 1 + 1 < 2 ^ 30; omega) (ht - 30)) (gd_V tw_891 tw_893 ts_18 tw_4 tw_894) rfl ⟨by decide +kernel, rfl, hl.1, (Nat.le_of_ble_eq_true rfl), ⟨(Nat.le_of_ble_eq_true rfl), (Nat.le_of_ble_eq_true rfl)⟩, ⟨(Nat.le_of_ble_eq_true rfl), (Nat.le_of_ble_eq_true rfl)⟩, rfl, rfl⟩ rfl (mw_h (sBeg 3 2 (sBeg 3 4 σ)) th fl dv) rfl dX11_bakes_112) (fun r u H locs hp hw => ?_)
    obtain ⟨h8, h9⟩ := hp
    have h8 := h8.symm
    have h9 := h9.symm
    subst h8
    subst h9
    refine lv_istore_n (lv' := [(3, .int (b01 (20 ≤ s_F (pB0 i (ht - 30) (sBeg 3 2 (sBeg 3 4 σ))) 7 i))), (0, .ref (M 0)), (1, .int (nI i)), (2, .int ht)]) cx.x cx.b dX11_bakes_115 rfl hl (by decide) rfl (fun ls hl => ?_)
    refine lv_iload_n cx.x cx.b dX11_bakes_116 rfl (lv_at hl 0 rfl) ?_
    refine lv_if_ne (tgt := 130) cx.x cx.b dX11_bakes_117 (by decide) (fun hb117 => ?_) (fun hb117 => ?_)
    · refine lv_iconst (v := 1) cx.x cx.b dX11_bakes_130 (by decide) ?_
      refine lv_goto (tgt := 135) cx.x cx.b dX11_bakes_131 (by decide) ?_
      exact ret_z (pB0 i (ht - 30) (sBeg 3 2 (sBeg 3 4 σ)), th, fl, dv) cx hw rfl ⟨b01_1 (Or.inl (Decidable.not_not.mp (fun h => hb117 (b01_eq0.mpr h)))), rfl⟩ dX11_bakes_135 (Nat.le_of_ble_eq_true rfl) (Nat.le_of_ble_eq_true rfl)
    · refine lv_aload_n cx.x cx.b dX11_bakes_120 rfl (lv_at hl 1 rfl) ?_
      refine gt_f (v := .ref (M 5)) cx hw 0 (mw_h (pB0 i (ht - 30) (sBeg 3 2 (sBeg 3 4 σ))) th fl dv) rfl inX11 6 (by decide) tw_763 ⟨rfl, rfl, Or.inl rfl⟩ rfl dX11_bakes_121 ?_
      refine lv_iload_n cx.x cx.b dX11_bakes_124 rfl (lv_at hl 2 rfl) ?_
      refine ald_i (f := (s_F σ 6)) cx hw 5 0 rfl rfl i rfl hi (by decide) dX11_bakes_125 ?_
      refine lv_iconst (v := 5) cx.x cx.b dX11_bakes_126 (by decide) ?_
      refine lv_icmp_le (tgt := 134) cx.x cx.b dX11_bakes_127 (by decide) (fun hb127 => ?_) (fun hb127 => ?_)
      · refine lv_iconst (v := 0) cx.x cx.b dX11_bakes_134 (by decide) ?_
        exact ret_z (pB0 i (ht - 30) (sBeg 3 2 (sBeg 3 4 σ)), th, fl, dv) cx hw rfl ⟨b01_0 (fun h => h.elim (b01_eq0.mp hb117) (Int32.not_lt.mpr hb127)), rfl⟩ dX11_bakes_135 (Nat.le_of_ble_eq_true rfl) (Nat.le_of_ble_eq_true rfl)
      · refine lv_iconst (v := 1) cx.x cx.b dX11_bakes_130 (by decide) ?_
        refine lv_goto (tgt := 135) cx.x cx.b dX11_bakes_131 (by decide) ?_
        exact ret_z (pB0 i (ht - 30) (sBeg 3 2 (sBeg 3 4 σ)), th, fl, dv) cx hw rfl ⟨b01_1 (Or.inr (Int32.not_le.mp hb127)), rfl⟩ dX11_bakes_135 (Nat.le_of_ble_eq_true rfl) (Nat.le_of_ble_eq_true rfl)
  · refine lv_aload_n cx.x cx.b dX11_bakes_0 rfl (lv_at hl 0 rfl) ?_
    refine gt_f (v := .ref (M 1)) cx hw 0 (mw_h σ th fl dv) rfl inX11 2 (by decide) tw_759 ⟨rfl, rfl, Or.inl rfl⟩ rfl dX11_bakes_1 ?_
    refine lv_iload_n cx.x cx.b dX11_bakes_4 rfl (lv_at hl 1 rfl) ?_
    refine ald_i (f := (fun x9 => nI (s_k σ x9))) cx hw 1 0 rfl rfl i rfl hi (by decide) dX11_bakes_5 ?_
    rw [h9]
    refine lv_tableIn (tgt := 60) cx.x cx.b dX11_bakes_6 (by decide) (by decide) rfl (by decide) ?_
    refine lv_aload_n cx.x cx.b dX11_bakes_60 rfl (lv_at hl 0 rfl) ?_
    refine lv_iconst (v := 3) cx.x cx.b dX11_bakes_61 (by decide) ?_
    refine lv_iconst (v := 3) cx.x cx.b dX11_bakes_62 (by decide) ?_
    refine cgo_v cx hw (rV_v (q0 := 0) (n := 2) (As := [.int 3, .int 3]) (rest := []) cx hw (c_X11_begin l D M Q σ th fl dv (by show s_N σ < 2 ^ 30; omega) 3 3) (gd_V tw_847 tw_849 ts_10 tw_4 tw_850) rfl ⟨by decide +kernel, rfl, hl.1, (Nat.le_of_ble_eq_true rfl), ⟨(Nat.le_of_ble_eq_true rfl), (Nat.le_of_ble_eq_true rfl)⟩, ⟨(Nat.le_of_ble_eq_true rfl), (Nat.le_of_ble_eq_true rfl)⟩, rfl, rfl⟩ rfl (mw_h σ th fl dv) rfl dX11_bakes_63) (fun u H locs hp hw => ?_)
    have hp := hp.symm
    subst hp
    refine lv_aload_n cx.x cx.b dX11_bakes_66 rfl (lv_at hl 0 rfl) ?_
    refine lv_iload_n cx.x cx.b dX11_bakes_67 rfl (lv_at hl 1 rfl) ?_
    refine lv_iload_n cx.x cx.b dX11_bakes_68 rfl (lv_at hl 2 rfl) ?_
    refine cgo_i cx hw (rV_i (q0 := 0) (n := 2) (As := [.int (nI i), .int ht]) (rest := []) cx hw (c_X11_plainBake l D M Q (sBeg 3 3 σ) th fl dv i hi (by show s_N σ + 1 + 1 < 2 ^ 30; omega) ht) (gd_V tw_891 tw_893 ts_18 tw_4 tw_894) rfl ⟨by decide +kernel, rfl, hl.1, (Nat.le_of_ble_eq_true rfl), ⟨(Nat.le_of_ble_eq_true rfl), (Nat.le_of_ble_eq_true rfl)⟩, ⟨(Nat.le_of_ble_eq_true rfl), (Nat.le_of_ble_eq_true rfl)⟩, rfl, rfl⟩ rfl (mw_h (sBeg 3 3 σ) th fl dv) rfl dX11_bakes_69) (fun r u H locs hp hw => ?_)
    obtain ⟨h8, h9⟩ := hp
    have h8 := h8.symm
    have h9 := h9.symm
    subst h8
    subst h9
    refine lv_istore_n (lv' := [(3, .int (b01 (20 ≤ s_F (pB0 i ht (sBeg 3 3 σ)) 7 i))), (0, .ref (M 0)), (1, .int (nI i)), (2, .int ht)]) cx.x cx.b dX11_bakes_72 rfl hl (by decide) rfl (fun ls hl => ?_)
    refine lv_iload_n cx.x cx.b dX11_bakes_73 rfl (lv_at hl 0 rfl) ?_
    refine lv_if_eq (tgt := 92) cx.x cx.b dX11_bakes_74 (by decide) (fun hb74 => ?_) (fun hb74 => ?_)
    · refine lv_iconst (v := 0) cx.x cx.b dX11_bakes_92 (by decide) ?_
      exact ret_z (pB0 i ht (sBeg 3 3 σ), th, fl, dv) cx hw rfl ⟨b01_0 (fun h => b01_eq0.mp hb74 h.1), rfl⟩ dX11_bakes_93 (Nat.le_of_ble_eq_true rfl) (Nat.le_of_ble_eq_true rfl)
    · refine lv_aload_n cx.x cx.b dX11_bakes_77 rfl (lv_at hl 1 rfl) ?_
      refine gt_f (v := .ref (M 6)) cx hw 0 (mw_h (pB0 i ht (sBeg 3 3 σ)) th fl dv) rfl inX11 7 (by decide) tw_764 ⟨rfl, rfl, Or.inl rfl⟩ rfl dX11_bakes_78 ?_
      refine lv_iload_n cx.x cx.b dX11_bakes_81 rfl (lv_at hl 2 rfl) ?_
      refine ald_i (f := (s_F (pB0 i ht (sBeg 3 3 σ)) 7)) cx hw 6 0 rfl rfl i rfl hi (by decide) dX11_bakes_82 ?_
      refine lv_bipush (v := 60) cx.x cx.b dX11_bakes_83 (by decide) ?_
      refine lv_icmp_gt (tgt := 92) cx.x cx.b dX11_bakes_85 (by decide) (fun hb85 => ?_) (fun hb85 => ?_)
      · refine lv_iconst (v := 0) cx.x cx.b dX11_bakes_92 (by decide) ?_
        exact ret_z (pB0 i ht (sBeg 3 3 σ), th, fl, dv) cx hw rfl ⟨b01_0 (fun h => Int32.not_le.mpr hb85 h.2), rfl⟩ dX11_bakes_93 (Nat.le_of_ble_eq_true rfl) (Nat.le_of_ble_eq_true rfl)
      · refine lv_iconst (v := 1) cx.x cx.b dX11_bakes_88 (by decide) ?_
        refine lv_goto (tgt := 93) cx.x cx.b dX11_bakes_89 (by decide) ?_
        exact ret_z (pB0 i ht (sBeg 3 3 σ), th, fl, dv) cx hw rfl ⟨b01_1 ⟨Decidable.not_not.mp (fun h => hb74 (b01_eq0.mpr h)), Int32.not_lt.mp hb85⟩, rfl⟩ dX11_bakes_93 (Nat.le_of_ble_eq_true rfl) (Nat.le_of_ble_eq_true rfl)
  · refine lv_aload_n cx.x cx.b dX11_bakes_0 rfl (lv_at hl 0 rfl) ?_
    refine gt_f (v := .ref (M 1)) cx hw 0 (mw_h σ th fl dv) rfl inX11 2 (by decide) tw_759 ⟨rfl, rfl, Or.inl rfl⟩ rfl dX11_bakes_1 ?_
    refine lv_iload_n cx.x cx.b dX11_bakes_4 rfl (lv_at hl 1 rfl) ?_
    refine ald_i (f := (fun x9 => nI (s_k σ x9))) cx hw 1 0 rfl rfl i rfl hi (by decide) dX11_bakes_5 ?_
    rw [h9]
    refine lv_tableIn (tgt := 136) cx.x cx.b dX11_bakes_6 (by decide) (by decide) rfl (by decide) ?_
    refine lv_aload_n cx.x cx.b dX11_bakes_136 rfl (lv_at hl 0 rfl) ?_
    refine lv_iconst (v := 3) cx.x cx.b dX11_bakes_137 (by decide) ?_
    refine lv_bipush (v := 6) cx.x cx.b dX11_bakes_138 (by decide) ?_
    refine cgo_v cx hw (rV_v (q0 := 0) (n := 2) (As := [.int 3, .int 6]) (rest := []) cx hw (c_X11_begin l D M Q σ th fl dv (by show s_N σ < 2 ^ 30; omega) 3 6) (gd_V tw_847 tw_849 ts_10 tw_4 tw_850) rfl ⟨by decide +kernel, rfl, hl.1, (Nat.le_of_ble_eq_true rfl), ⟨(Nat.le_of_ble_eq_true rfl), (Nat.le_of_ble_eq_true rfl)⟩, ⟨(Nat.le_of_ble_eq_true rfl), (Nat.le_of_ble_eq_true rfl)⟩, rfl, rfl⟩ rfl (mw_h σ th fl dv) rfl dX11_bakes_140) (fun u H locs hp hw => ?_)
    have hp := hp.symm
    subst hp
    refine lv_aload_n cx.x cx.b dX11_bakes_143 rfl (lv_at hl 0 rfl) ?_
    refine lv_iload_n cx.x cx.b dX11_bakes_144 rfl (lv_at hl 1 rfl) ?_
    refine lv_iconst (v := 2) cx.x cx.b dX11_bakes_145 (by decide) ?_
    refine lv_iload_n cx.x cx.b dX11_bakes_146 rfl (lv_at hl 2 rfl) ?_
    refine lv_imul cx.x cx.b dX11_bakes_147 ?_
    refine cgo_i cx hw (rV_i (q0 := 0) (n := 2) (As := [.int (nI i), .int (2 * ht)]) (rest := []) cx hw (c_X11_plainBake l D M Q (sBeg 3 6 σ) th fl dv i hi (by show s_N σ + 1 + 1 < 2 ^ 30; omega) (2 * ht)) (gd_V tw_891 tw_893 ts_18 tw_4 tw_894) rfl ⟨by decide +kernel, rfl, hl.1, (Nat.le_of_ble_eq_true rfl), ⟨(Nat.le_of_ble_eq_true rfl), (Nat.le_of_ble_eq_true rfl)⟩, ⟨(Nat.le_of_ble_eq_true rfl), (Nat.le_of_ble_eq_true rfl)⟩, rfl, rfl⟩ rfl (mw_h (sBeg 3 6 σ) th fl dv) rfl dX11_bakes_148) (fun r u H locs hp hw => ?_)
    obtain ⟨h8, h9⟩ := hp
    have h8 := h8.symm
    have h9 := h9.symm
    subst h8
    subst h9
    exact ret_z (pB0 i (2 * ht) (sBeg 3 6 σ), th, fl, dv) cx hw b01_nar ⟨rfl, rfl⟩ dX11_bakes_151 (Nat.le_of_ble_eq_true rfl) (Nat.le_of_ble_eq_true rfl)
  · refine lv_aload_n cx.x cx.b dX11_bakes_0 rfl (lv_at hl 0 rfl) ?_
    refine gt_f (v := .ref (M 1)) cx hw 0 (mw_h σ th fl dv) rfl inX11 2 (by decide) tw_759 ⟨rfl, rfl, Or.inl rfl⟩ rfl dX11_bakes_1 ?_
    refine lv_iload_n cx.x cx.b dX11_bakes_4 rfl (lv_at hl 1 rfl) ?_
    refine ald_i (f := (fun x9 => nI (s_k σ x9))) cx hw 1 0 rfl rfl i rfl hi (by decide) dX11_bakes_5 ?_
    rw [h9]
    refine lv_tableIn (tgt := 94) cx.x cx.b dX11_bakes_6 (by decide) (by decide) rfl (by decide) ?_
    refine lv_aload_n cx.x cx.b dX11_bakes_94 rfl (lv_at hl 0 rfl) ?_
    refine lv_iconst (v := 3) cx.x cx.b dX11_bakes_95 (by decide) ?_
    refine lv_iconst (v := 4) cx.x cx.b dX11_bakes_96 (by decide) ?_
    refine cgo_v cx hw (rV_v (q0 := 0) (n := 2) (As := [.int 3, .int 4]) (rest := []) cx hw (c_X11_begin l D M Q σ th fl dv (by show s_N σ < 2 ^ 30; omega) 3 4) (gd_V tw_847 tw_849 ts_10 tw_4 tw_850) rfl ⟨by decide +kernel, rfl, hl.1, (Nat.le_of_ble_eq_true rfl), ⟨(Nat.le_of_ble_eq_true rfl), (Nat.le_of_ble_eq_true rfl)⟩, ⟨(Nat.le_of_ble_eq_true rfl), (Nat.le_of_ble_eq_true rfl)⟩, rfl, rfl⟩ rfl (mw_h σ th fl dv) rfl dX11_bakes_97) (fun u H locs hp hw => ?_)
    have hp := hp.symm
    subst hp
    refine lv_aload_n cx.x cx.b dX11_bakes_100 rfl (lv_at hl 0 rfl) ?_
    refine lv_iconst (v := 3) cx.x cx.b dX11_bakes_101 (by decide) ?_
    refine lv_iconst (v := 2) cx.x cx.b dX11_bakes_102 (by decide) ?_
    refine cgo_v cx hw (rV_v (q0 := 0) (n := 2) (As := [.int 3, .int 2]) (rest := []) cx hw (c_X11_begin l D M Q (sBeg 3 4 σ) th fl dv (by show s_N σ + 1 < 2 ^ 30; omega) 3 2) (gd_V tw_847 tw_849 ts_10 tw_4 tw_850) rfl ⟨by decide +kernel, rfl, hl.1, (Nat.le_of_ble_eq_true rfl), ⟨(Nat.le_of_ble_eq_true rfl), (Nat.le_of_ble_eq_true rfl)⟩, ⟨(Nat.le_of_ble_eq_true rfl), (Nat.le_of_ble_eq_true rfl)⟩, rfl, rfl⟩ rfl (mw_h (sBeg 3 4 σ) th fl dv) rfl dX11_bakes_103) (fun u H locs hp hw => ?_)
    have hp := hp.symm
    subst hp
    refine lv_aload_n cx.x cx.b dX11_bakes_106 rfl (lv_at hl 0 rfl) ?_
    refine lv_iload_n cx.x cx.b dX11_bakes_107 rfl (lv_at hl 1 rfl) ?_
    refine lv_iload_n cx.x cx.b dX11_bakes_108 rfl (lv_at hl 2 rfl) ?_
    refine lv_bipush (v := 30) cx.x cx.b dX11_bakes_109 (by decide) ?_
    refine lv_isub cx.x cx.b dX11_bakes_111 ?_
    refine cgo_i cx hw (rV_i (q0 := 0) (n := 2) (As := [.int (nI i), .int (ht - 30)]) (rest := []) cx hw (c_X11_plainBake l D M Q (sBeg 3 2 (sBeg 3 4 σ)) th fl dv i hi (by show s_N σ + 1 + 1 + 1 < 2 ^ 30; omega) (ht - 30)) (gd_V tw_891 tw_893 ts_18 tw_4 tw_894) rfl ⟨by decide +kernel, rfl, hl.1, (Nat.le_of_ble_eq_true rfl), ⟨(Nat.le_of_ble_eq_true rfl), (Nat.le_of_ble_eq_true rfl)⟩, ⟨(Nat.le_of_ble_eq_true rfl), (Nat.le_of_ble_eq_true rfl)⟩, rfl, rfl⟩ rfl (mw_h (sBeg 3 2 (sBeg 3 4 σ)) th fl dv) rfl dX11_bakes_112) (fun r u H locs hp hw => ?_)
    obtain ⟨h8, h9⟩ := hp
    have h8 := h8.symm
    have h9 := h9.symm
    subst h8
    subst h9
    refine lv_istore_n (lv' := [(3, .int (b01 (20 ≤ s_F (pB0 i (ht - 30) (sBeg 3 2 (sBeg 3 4 σ))) 7 i))), (0, .ref (M 0)), (1, .int (nI i)), (2, .int ht)]) cx.x cx.b dX11_bakes_115 rfl hl (by decide) rfl (fun ls hl => ?_)
    refine lv_iload_n cx.x cx.b dX11_bakes_116 rfl (lv_at hl 0 rfl) ?_
    refine lv_if_ne (tgt := 130) cx.x cx.b dX11_bakes_117 (by decide) (fun hb117 => ?_) (fun hb117 => ?_)
    · refine lv_iconst (v := 1) cx.x cx.b dX11_bakes_130 (by decide) ?_
      refine lv_goto (tgt := 135) cx.x cx.b dX11_bakes_131 (by decide) ?_
      exact ret_z (pB0 i (ht - 30) (sBeg 3 2 (sBeg 3 4 σ)), th, fl, dv) cx hw rfl ⟨b01_1 (Or.inl (Decidable.not_not.mp (fun h => hb117 (b01_eq0.mpr h)))), rfl⟩ dX11_bakes_135 (Nat.le_of_ble_eq_true rfl) (Nat.le_of_ble_eq_true rfl)
    · refine lv_aload_n cx.x cx.b dX11_bakes_120 rfl (lv_at hl 1 rfl) ?_
      refine gt_f (v := .ref (M 5)) cx hw 0 (mw_h (pB0 i (ht - 30) (sBeg 3 2 (sBeg 3 4 σ))) th fl dv) rfl inX11 6 (by decide) tw_763 ⟨rfl, rfl, Or.inl rfl⟩ rfl dX11_bakes_121 ?_
      refine lv_iload_n cx.x cx.b dX11_bakes_124 rfl (lv_at hl 2 rfl) ?_
      refine ald_i (f := (s_F σ 6)) cx hw 5 0 rfl rfl i rfl hi (by decide) dX11_bakes_125 ?_
      refine lv_iconst (v := 5) cx.x cx.b dX11_bakes_126 (by decide) ?_
      refine lv_icmp_le (tgt := 134) cx.x cx.b dX11_bakes_127 (by decide) (fun hb127 => ?_) (fun hb127 => ?_)
      · refine lv_iconst (v := 0) cx.x cx.b dX11_bakes_134 (by decide) ?_
        exact ret_z (pB0 i (ht - 30) (sBeg 3 2 (sBeg 3 4 σ)), th, fl, dv) cx hw rfl ⟨b01_0 (fun h => h.elim (b01_eq0.mp hb117) (Int32.not_lt.mpr hb127)), rfl⟩ dX11_bakes_135 (Nat.le_of_ble_eq_true rfl) (Nat.le_of_ble_eq_true rfl)
      · refine lv_iconst (v := 1) cx.x cx.b dX11_bakes_130 (by decide) ?_
        refine lv_goto (tgt := 135) cx.x cx.b dX11_bakes_131 (by decide) ?_
        exact ret_z (pB0 i (ht - 30) (sBeg 3 2 (sBeg 3 4 σ)), th, fl, dv) cx hw rfl ⟨b01_1 (Or.inr (Int32.not_le.mp hb127)), rfl⟩ dX11_bakes_135 (Nat.le_of_ble_eq_true rfl) (Nat.le_of_ble_eq_true rfl)
set_option maxHeartbeats 4000000 in
set_option maxRecDepth 100000 in
theorem c_X11_plainWorth (l : Launch) (D : va_G) (M : Nat → Nat) (Q : Nat → ClassId) (σ : St) (th fl dv : Int32) (i : Nat) (hi : i < 20) (hb : s_N σ + 1 < 2 ^ 30) : MI l yX11_plainWorth cX11_plainWorth 2 .int ({ frames := 1, cells := 0, slots := 0, locals := 22 }) D cls (tyl Q) [.ref (M 0), .int (nI i)] (mw M Q) (mw M Q (σ, th, fl, dv)) (fun r u => r = vW0 i σ ∧ u = (sBeg 4 0 σ, th, fl, dv)) 0 0 := by
  refine MI_of (by decide) (Nat.le_of_ble_eq_true rfl) ?_
  intro p e s m args below meth c A ls cx hw hl
  have hl : lv_has ls 2 [(0, .ref (M 0)), (1, .int (nI i))] := hl
  refine lv_aload_n cx.x cx.b dX11_plainWorth_0 rfl (lv_at hl 0 rfl) ?_
  refine lv_iconst (v := 4) cx.x cx.b dX11_plainWorth_1 (by decide) ?_
  refine lv_iconst (v := 0) cx.x cx.b dX11_plainWorth_2 (by decide) ?_
  refine cgo_v cx hw (rV_v (q0 := 0) (n := 2) (As := [.int 4, .int 0]) (rest := []) cx hw (c_X11_begin l D M Q σ th fl dv (by show s_N σ < 2 ^ 30; omega) 4 0) (gd_V tw_847 tw_849 ts_10 tw_4 tw_850) rfl ⟨by decide +kernel, rfl, hl.1, (Nat.le_of_ble_eq_true rfl), ⟨(Nat.le_of_ble_eq_true rfl), (Nat.le_of_ble_eq_true rfl)⟩, ⟨(Nat.le_of_ble_eq_true rfl), (Nat.le_of_ble_eq_true rfl)⟩, rfl, rfl⟩ rfl (mw_h σ th fl dv) rfl dX11_plainWorth_3) (fun u H locs hp hw => ?_)
  have hp := hp.symm
  subst hp
  refine lv_aload_n cx.x cx.b dX11_plainWorth_6 rfl (lv_at hl 0 rfl) ?_
  refine gt_f (v := .ref (M 2)) cx hw 0 (mw_h (sBeg 4 0 σ) th fl dv) rfl inX11 3 (by decide) tw_760 ⟨rfl, rfl, Or.inl rfl⟩ rfl dX11_plainWorth_7 ?_
  refine lv_iload_n cx.x cx.b dX11_plainWorth_10 rfl (lv_at hl 1 rfl) ?_
  refine ald_i (f := (s_F σ 3)) cx hw 2 0 rfl rfl i rfl hi (by decide) dX11_plainWorth_11 ?_
  refine lv_bipush (v := 10) cx.x cx.b dX11_plainWorth_12 (by decide) ?_
  refine lv_idiv cx.x cx.b dX11_plainWorth_14 (by decide) ?_
  refine lv_iconst (v := 2) cx.x cx.b dX11_plainWorth_15 (by decide) ?_
  refine lv_aload_n cx.x cx.b dX11_plainWorth_16 rfl (lv_at hl 0 rfl) ?_
  refine gt_f (v := .ref (M 4)) cx hw 0 (mw_h (sBeg 4 0 σ) th fl dv) rfl inX11 5 (by decide) tw_762 ⟨rfl, rfl, Or.inl rfl⟩ rfl dX11_plainWorth_17 ?_
  refine lv_iload_n cx.x cx.b dX11_plainWorth_20 rfl (lv_at hl 1 rfl) ?_
  refine ald_i (f := (s_F σ 5)) cx hw 4 0 rfl rfl i rfl hi (by decide) dX11_plainWorth_21 ?_
  refine lv_imul cx.x cx.b dX11_plainWorth_22 ?_
  refine lv_iadd cx.x cx.b dX11_plainWorth_23 ?_
  exact ret_i (sBeg 4 0 σ, th, fl, dv) cx hw ⟨rfl, rfl⟩ dX11_plainWorth_24 (Nat.le_of_ble_eq_true rfl) (Nat.le_of_ble_eq_true rfl)
set_option maxHeartbeats 4000000 in
set_option maxRecDepth 100000 in
theorem c_X11_worthOf (l : Launch) (D : va_G) (M : Nat → Nat) (Q : Nat → ClassId) (σ : St) (th fl dv : Int32) (i : Nat) (hi : i < 20) (hb : s_N σ + 3 < 2 ^ 30) (hd : s_k σ i < 8) : MI l yX11_worthOf cX11_worthOf 2 .int ({ frames := 2, cells := 0, slots := 0, locals := 43 }) D cls (tyl Q) [.ref (M 0), .int (nI i)] (mw M Q) (mw M Q (σ, th, fl, dv)) (fun r u => r = vWorth (s_k σ i) i σ ∧ u = (rWorth (s_k σ i) i σ, th, fl, b01 (fWorth (s_k σ i) i σ))) 0 0 := by
  refine MI_of (by decide) (Nat.le_of_ble_eq_true rfl) ?_
  intro p e s m args below meth c A ls cx hw hl
  have hl : lv_has ls 2 [(0, .ref (M 0)), (1, .int (nI i))] := hl
  rcases (show s_k σ i = 0 ∨ s_k σ i = 1 ∨ s_k σ i = 2 ∨ s_k σ i = 3 ∨ s_k σ i = 4 ∨ s_k σ i = 5 ∨ s_k σ i = 6 ∨ s_k σ i = 7 by omega) with h9 | h9 | h9 | h9 | h9 | h9 | h9 | h9
  · refine lv_aload_n cx.x cx.b dX11_worthOf_0 rfl (lv_at hl 0 rfl) ?_
    refine lv_iconst (v := 0) cx.x cx.b dX11_worthOf_1 (by decide) ?_
    refine pt_f cx hw 0 (mw_h σ th fl dv) rfl inX11 tyX11 tyX11_ok nmX11 16 (by decide) tw_773 ⟨rfl, rfl, Or.inl rfl⟩ rfl rfl rfl rfl (Nat.le_of_ble_eq_true rfl) dX11_worthOf_2 (w1 := mw M Q (σ, th, fl, 0)) mw_p16 (fun H locs hw => ?_)
    refine lv_aload_n cx.x cx.b dX11_worthOf_5 rfl (lv_at hl 0 rfl) ?_
    refine gt_f (v := .ref (M 1)) cx hw 0 (mw_h σ th fl 0) rfl inX11 2 (by decide) tw_759 ⟨rfl, rfl, Or.inl rfl⟩ rfl dX11_worthOf_6 ?_
    refine lv_iload_n cx.x cx.b dX11_worthOf_9 rfl (lv_at hl 1 rfl) ?_
    refine ald_i (f := (fun x9 => nI (s_k σ x9))) cx hw 1 0 rfl rfl i rfl hi (by decide) dX11_worthOf_10 ?_
    rw [h9]
    refine lv_tableOut (tgt := 184) cx.x cx.b dX11_worthOf_11 (by decide) (by decide) ?_
    refine lv_aload_n cx.x cx.b dX11_worthOf_184 rfl (lv_at hl 0 rfl) ?_
    refine lv_iload_n cx.x cx.b dX11_worthOf_185 rfl (lv_at hl 1 rfl) ?_
    refine cgo_i cx hw (rV_i (q0 := 0) (n := 1) (As := [.int (nI i)]) (rest := []) cx hw (c_X11_plainWorth l D M Q σ th fl 0 i hi (by show s_N σ + 1 < 2 ^ 30; omega)) (gd_V tw_903 tw_905 ts_20 tw_4 tw_906) rfl ⟨by decide +kernel, rfl, hl.1, (Nat.le_of_ble_eq_true rfl), ⟨(Nat.le_of_ble_eq_true rfl), (Nat.le_of_ble_eq_true rfl)⟩, ⟨(Nat.le_of_ble_eq_true rfl), (Nat.le_of_ble_eq_true rfl)⟩, rfl, rfl⟩ rfl (mw_h σ th fl 0) rfl dX11_worthOf_186) (fun r u H locs hp hw => ?_)
    obtain ⟨h8, h9⟩ := hp
    have h8 := h8.symm
    have h9 := h9.symm
    subst h8
    subst h9
    exact ret_i (sBeg 4 0 σ, th, fl, 0) cx hw ⟨rfl, by rw [← fW0 (by decide)]; rfl⟩ dX11_worthOf_189 (Nat.le_of_ble_eq_true rfl) (Nat.le_of_ble_eq_true rfl)
  · refine lv_aload_n cx.x cx.b dX11_worthOf_0 rfl (lv_at hl 0 rfl) ?_
    refine lv_iconst (v := 0) cx.x cx.b dX11_worthOf_1 (by decide) ?_
    refine pt_f cx hw 0 (mw_h σ th fl dv) rfl inX11 tyX11 tyX11_ok nmX11 16 (by decide) tw_773 ⟨rfl, rfl, Or.inl rfl⟩ rfl rfl rfl rfl (Nat.le_of_ble_eq_true rfl) dX11_worthOf_2 (w1 := mw M Q (σ, th, fl, 0)) mw_p16 (fun H locs hw => ?_)
    refine lv_aload_n cx.x cx.b dX11_worthOf_5 rfl (lv_at hl 0 rfl) ?_
    refine gt_f (v := .ref (M 1)) cx hw 0 (mw_h σ th fl 0) rfl inX11 2 (by decide) tw_759 ⟨rfl, rfl, Or.inl rfl⟩ rfl dX11_worthOf_6 ?_
    refine lv_iload_n cx.x cx.b dX11_worthOf_9 rfl (lv_at hl 1 rfl) ?_
    refine ald_i (f := (fun x9 => nI (s_k σ x9))) cx hw 1 0 rfl rfl i rfl hi (by decide) dX11_worthOf_10 ?_
    rw [h9]
    refine lv_tableOut (tgt := 184) cx.x cx.b dX11_worthOf_11 (by decide) (by decide) ?_
    refine lv_aload_n cx.x cx.b dX11_worthOf_184 rfl (lv_at hl 0 rfl) ?_
    refine lv_iload_n cx.x cx.b dX11_worthOf_185 rfl (lv_at hl 1 rfl) ?_
    refine cgo_i cx hw (rV_i (q0 := 0) (n := 1) (As := [.int (nI i)]) (rest := []) cx hw (c_X11_plainWorth l D M Q σ th fl 0 i hi (by show s_N σ + 1 < 2 ^ 30; omega)) (gd_V tw_903 tw_905 ts_20 tw_4 tw_906) rfl ⟨by decide +kernel, rfl, hl.1, (Nat.le_of_ble_eq_true rfl), ⟨(Nat.le_of_ble_eq_true rfl), (Nat.le_of_ble_eq_true rfl)⟩, ⟨(Nat.le_of_ble_eq_true rfl), (Nat.le_of_ble_eq_true rfl)⟩, rfl, rfl⟩ rfl (mw_h σ th fl 0) rfl dX11_worthOf_186) (fun r u H locs hp hw => ?_)
    obtain ⟨h8, h9⟩ := hp
    have h8 := h8.symm
    have h9 := h9.symm
    subst h8
    subst h9
    exact ret_i (sBeg 4 0 σ, th, fl, 0) cx hw ⟨rfl, by rw [← fW0 (by decide)]; rfl⟩ dX11_worthOf_189 (Nat.le_of_ble_eq_true rfl) (Nat.le_of_ble_eq_true rfl)
  · refine lv_aload_n cx.x cx.b dX11_worthOf_0 rfl (lv_at hl 0 rfl) ?_
    refine lv_iconst (v := 0) cx.x cx.b dX11_worthOf_1 (by decide) ?_
    refine pt_f cx hw 0 (mw_h σ th fl dv) rfl inX11 tyX11 tyX11_ok nmX11 16 (by decide) tw_773 ⟨rfl, rfl, Or.inl rfl⟩ rfl rfl rfl rfl (Nat.le_of_ble_eq_true rfl) dX11_worthOf_2 (w1 := mw M Q (σ, th, fl, 0)) mw_p16 (fun H locs hw => ?_)
    refine lv_aload_n cx.x cx.b dX11_worthOf_5 rfl (lv_at hl 0 rfl) ?_
    refine gt_f (v := .ref (M 1)) cx hw 0 (mw_h σ th fl 0) rfl inX11 2 (by decide) tw_759 ⟨rfl, rfl, Or.inl rfl⟩ rfl dX11_worthOf_6 ?_
    refine lv_iload_n cx.x cx.b dX11_worthOf_9 rfl (lv_at hl 1 rfl) ?_
    refine ald_i (f := (fun x9 => nI (s_k σ x9))) cx hw 1 0 rfl rfl i rfl hi (by decide) dX11_worthOf_10 ?_
    rw [h9]
    refine lv_tableOut (tgt := 184) cx.x cx.b dX11_worthOf_11 (by decide) (by decide) ?_
    refine lv_aload_n cx.x cx.b dX11_worthOf_184 rfl (lv_at hl 0 rfl) ?_
    refine lv_iload_n cx.x cx.b dX11_worthOf_185 rfl (lv_at hl 1 rfl) ?_
    refine cgo_i cx hw (rV_i (q0 := 0) (n := 1) (As := [.int (nI i)]) (rest := []) cx hw (c_X11_plainWorth l D M Q σ th fl 0 i hi (by show s_N σ + 1 < 2 ^ 30; omega)) (gd_V tw_903 tw_905 ts_20 tw_4 tw_906) rfl ⟨by decide +kernel, rfl, hl.1, (Nat.le_of_ble_eq_true rfl), ⟨(Nat.le_of_ble_eq_true rfl), (Nat.le_of_ble_eq_true rfl)⟩, ⟨(Nat.le_of_ble_eq_true rfl), (Nat.le_of_ble_eq_true rfl)⟩, rfl, rfl⟩ rfl (mw_h σ th fl 0) rfl dX11_worthOf_186) (fun r u H locs hp hw => ?_)
    obtain ⟨h8, h9⟩ := hp
    have h8 := h8.symm
    have h9 := h9.symm
    subst h8
    subst h9
    exact ret_i (sBeg 4 0 σ, th, fl, 0) cx hw ⟨rfl, by rw [← fW0 (by decide)]; rfl⟩ dX11_worthOf_189 (Nat.le_of_ble_eq_true rfl) (Nat.le_of_ble_eq_true rfl)
  · refine lv_aload_n cx.x cx.b dX11_worthOf_0 rfl (lv_at hl 0 rfl) ?_
    refine lv_iconst (v := 0) cx.x cx.b dX11_worthOf_1 (by decide) ?_
    refine pt_f cx hw 0 (mw_h σ th fl dv) rfl inX11 tyX11 tyX11_ok nmX11 16 (by decide) tw_773 ⟨rfl, rfl, Or.inl rfl⟩ rfl rfl rfl rfl (Nat.le_of_ble_eq_true rfl) dX11_worthOf_2 (w1 := mw M Q (σ, th, fl, 0)) mw_p16 (fun H locs hw => ?_)
    refine lv_aload_n cx.x cx.b dX11_worthOf_5 rfl (lv_at hl 0 rfl) ?_
    refine gt_f (v := .ref (M 1)) cx hw 0 (mw_h σ th fl 0) rfl inX11 2 (by decide) tw_759 ⟨rfl, rfl, Or.inl rfl⟩ rfl dX11_worthOf_6 ?_
    refine lv_iload_n cx.x cx.b dX11_worthOf_9 rfl (lv_at hl 1 rfl) ?_
    refine ald_i (f := (fun x9 => nI (s_k σ x9))) cx hw 1 0 rfl rfl i rfl hi (by decide) dX11_worthOf_10 ?_
    rw [h9]
    refine lv_tableOut (tgt := 184) cx.x cx.b dX11_worthOf_11 (by decide) (by decide) ?_
    refine lv_aload_n cx.x cx.b dX11_worthOf_184 rfl (lv_at hl 0 rfl) ?_
    refine lv_iload_n cx.x cx.b dX11_worthOf_185 rfl (lv_at hl 1 rfl) ?_
    refine cgo_i cx hw (rV_i (q0 := 0) (n := 1) (As := [.int (nI i)]) (rest := []) cx hw (c_X11_plainWorth l D M Q σ th fl 0 i hi (by show s_N σ + 1 < 2 ^ 30; omega)) (gd_V tw_903 tw_905 ts_20 tw_4 tw_906) rfl ⟨by decide +kernel, rfl, hl.1, (Nat.le_of_ble_eq_true rfl), ⟨(Nat.le_of_ble_eq_true rfl), (Nat.le_of_ble_eq_true rfl)⟩, ⟨(Nat.le_of_ble_eq_true rfl), (Nat.le_of_ble_eq_true rfl)⟩, rfl, rfl⟩ rfl (mw_h σ th fl 0) rfl dX11_worthOf_186) (fun r u H locs hp hw => ?_)
    obtain ⟨h8, h9⟩ := hp
    have h8 := h8.symm
    have h9 := h9.symm
    subst h8
    subst h9
    exact ret_i (sBeg 4 0 σ, th, fl, 0) cx hw ⟨rfl, by rw [← fW0 (by decide)]; rfl⟩ dX11_worthOf_189 (Nat.le_of_ble_eq_true rfl) (Nat.le_of_ble_eq_true rfl)
  · refine lv_aload_n cx.x cx.b dX11_worthOf_0 rfl (lv_at hl 0 rfl) ?_
    refine lv_iconst (v := 0) cx.x cx.b dX11_worthOf_1 (by decide) ?_
    refine pt_f cx hw 0 (mw_h σ th fl dv) rfl inX11 tyX11 tyX11_ok nmX11 16 (by decide) tw_773 ⟨rfl, rfl, Or.inl rfl⟩ rfl rfl rfl rfl (Nat.le_of_ble_eq_true rfl) dX11_worthOf_2 (w1 := mw M Q (σ, th, fl, 0)) mw_p16 (fun H locs hw => ?_)
    refine lv_aload_n cx.x cx.b dX11_worthOf_5 rfl (lv_at hl 0 rfl) ?_
    refine gt_f (v := .ref (M 1)) cx hw 0 (mw_h σ th fl 0) rfl inX11 2 (by decide) tw_759 ⟨rfl, rfl, Or.inl rfl⟩ rfl dX11_worthOf_6 ?_
    refine lv_iload_n cx.x cx.b dX11_worthOf_9 rfl (lv_at hl 1 rfl) ?_
    refine ald_i (f := (fun x9 => nI (s_k σ x9))) cx hw 1 0 rfl rfl i rfl hi (by decide) dX11_worthOf_10 ?_
    rw [h9]
    refine lv_tableIn (tgt := 40) cx.x cx.b dX11_worthOf_11 (by decide) (by decide) rfl (by decide) ?_
    refine lv_aload_n cx.x cx.b dX11_worthOf_40 rfl (lv_at hl 0 rfl) ?_
    refine lv_iconst (v := 4) cx.x cx.b dX11_worthOf_41 (by decide) ?_
    refine lv_iconst (v := 4) cx.x cx.b dX11_worthOf_42 (by decide) ?_
    refine cgo_v cx hw (rV_v (q0 := 0) (n := 2) (As := [.int 4, .int 4]) (rest := []) cx hw (c_X11_begin l D M Q σ th fl 0 (by show s_N σ < 2 ^ 30; omega) 4 4) (gd_V tw_847 tw_849 ts_10 tw_4 tw_850) rfl ⟨by decide +kernel, rfl, hl.1, (Nat.le_of_ble_eq_true rfl), ⟨(Nat.le_of_ble_eq_true rfl), (Nat.le_of_ble_eq_true rfl)⟩, ⟨(Nat.le_of_ble_eq_true rfl), (Nat.le_of_ble_eq_true rfl)⟩, rfl, rfl⟩ rfl (mw_h σ th fl 0) rfl dX11_worthOf_43) (fun u H locs hp hw => ?_)
    have hp := hp.symm
    subst hp
    refine lv_aload_n cx.x cx.b dX11_worthOf_46 rfl (lv_at hl 0 rfl) ?_
    refine lv_iload_n cx.x cx.b dX11_worthOf_47 rfl (lv_at hl 1 rfl) ?_
    refine cgo_i cx hw (rV_i (q0 := 0) (n := 1) (As := [.int (nI i)]) (rest := []) cx hw (c_X11_plainWorth l D M Q (sBeg 4 4 σ) th fl 0 i hi (by show s_N σ + 1 + 1 < 2 ^ 30; omega)) (gd_V tw_903 tw_905 ts_20 tw_4 tw_906) rfl ⟨by decide +kernel, rfl, hl.1, (Nat.le_of_ble_eq_true rfl), ⟨(Nat.le_of_ble_eq_true rfl), (Nat.le_of_ble_eq_true rfl)⟩, ⟨(Nat.le_of_ble_eq_true rfl), (Nat.le_of_ble_eq_true rfl)⟩, rfl, rfl⟩ rfl (mw_h (sBeg 4 4 σ) th fl 0) rfl dX11_worthOf_48) (fun r u H locs hp hw => ?_)
    obtain ⟨h8, h9⟩ := hp
    have h8 := h8.symm
    have h9 := h9.symm
    subst h8
    subst h9
    refine lv_aload_n cx.x cx.b dX11_worthOf_51 rfl (lv_at hl 0 rfl) ?_
    refine gt_f (v := .ref (M 5)) cx hw 0 (mw_h (sBeg 4 0 (sBeg 4 4 σ)) th fl 0) rfl inX11 6 (by decide) tw_763 ⟨rfl, rfl, Or.inl rfl⟩ rfl dX11_worthOf_52 ?_
    refine lv_iload_n cx.x cx.b dX11_worthOf_55 rfl (lv_at hl 1 rfl) ?_
    refine ald_i (f := (s_F σ 6)) cx hw 5 0 rfl rfl i rfl hi (by decide) dX11_worthOf_56 ?_
    refine lv_iadd cx.x cx.b dX11_worthOf_57 ?_
    exact ret_i (sBeg 4 0 (sBeg 4 4 σ), th, fl, 0) cx hw ⟨rfl, by rw [← fW0 (by decide)]; rfl⟩ dX11_worthOf_58 (Nat.le_of_ble_eq_true rfl) (Nat.le_of_ble_eq_true rfl)
  · refine lv_aload_n cx.x cx.b dX11_worthOf_0 rfl (lv_at hl 0 rfl) ?_
    refine lv_iconst (v := 0) cx.x cx.b dX11_worthOf_1 (by decide) ?_
    refine pt_f cx hw 0 (mw_h σ th fl dv) rfl inX11 tyX11 tyX11_ok nmX11 16 (by decide) tw_773 ⟨rfl, rfl, Or.inl rfl⟩ rfl rfl rfl rfl (Nat.le_of_ble_eq_true rfl) dX11_worthOf_2 (w1 := mw M Q (σ, th, fl, 0)) mw_p16 (fun H locs hw => ?_)
    refine lv_aload_n cx.x cx.b dX11_worthOf_5 rfl (lv_at hl 0 rfl) ?_
    refine gt_f (v := .ref (M 1)) cx hw 0 (mw_h σ th fl 0) rfl inX11 2 (by decide) tw_759 ⟨rfl, rfl, Or.inl rfl⟩ rfl dX11_worthOf_6 ?_
    refine lv_iload_n cx.x cx.b dX11_worthOf_9 rfl (lv_at hl 1 rfl) ?_
    refine ald_i (f := (fun x9 => nI (s_k σ x9))) cx hw 1 0 rfl rfl i rfl hi (by decide) dX11_worthOf_10 ?_
    rw [h9]
    refine lv_tableIn (tgt := 102) cx.x cx.b dX11_worthOf_11 (by decide) (by decide) rfl (by decide) ?_
    refine lv_aload_n cx.x cx.b dX11_worthOf_102 rfl (lv_at hl 0 rfl) ?_
    refine lv_iconst (v := 4) cx.x cx.b dX11_worthOf_103 (by decide) ?_
    refine lv_iconst (v := 5) cx.x cx.b dX11_worthOf_104 (by decide) ?_
    refine cgo_v cx hw (rV_v (q0 := 0) (n := 2) (As := [.int 4, .int 5]) (rest := []) cx hw (c_X11_begin l D M Q σ th fl 0 (by show s_N σ < 2 ^ 30; omega) 4 5) (gd_V tw_847 tw_849 ts_10 tw_4 tw_850) rfl ⟨by decide +kernel, rfl, hl.1, (Nat.le_of_ble_eq_true rfl), ⟨(Nat.le_of_ble_eq_true rfl), (Nat.le_of_ble_eq_true rfl)⟩, ⟨(Nat.le_of_ble_eq_true rfl), (Nat.le_of_ble_eq_true rfl)⟩, rfl, rfl⟩ rfl (mw_h σ th fl 0) rfl dX11_worthOf_105) (fun u H locs hp hw => ?_)
    have hp := hp.symm
    subst hp
    refine lv_iconst (v := 2) cx.x cx.b dX11_worthOf_108 (by decide) ?_
    refine lv_aload_n cx.x cx.b dX11_worthOf_109 rfl (lv_at hl 0 rfl) ?_
    refine lv_iload_n cx.x cx.b dX11_worthOf_110 rfl (lv_at hl 1 rfl) ?_
    refine cgo_i cx hw (rV_i (q0 := 0) (n := 1) (As := [.int (nI i)]) (rest := [.int 2]) cx hw (c_X11_plainWorth l D M Q (sBeg 4 5 σ) th fl 0 i hi (by show s_N σ + 1 + 1 < 2 ^ 30; omega)) (gd_V tw_903 tw_905 ts_20 tw_4 tw_906) rfl ⟨by decide +kernel, rfl, hl.1, (Nat.le_of_ble_eq_true rfl), ⟨(Nat.le_of_ble_eq_true rfl), (Nat.le_of_ble_eq_true rfl)⟩, ⟨(Nat.le_of_ble_eq_true rfl), (Nat.le_of_ble_eq_true rfl)⟩, rfl, rfl⟩ rfl (mw_h (sBeg 4 5 σ) th fl 0) rfl dX11_worthOf_111) (fun r u H locs hp hw => ?_)
    obtain ⟨h8, h9⟩ := hp
    have h8 := h8.symm
    have h9 := h9.symm
    subst h8
    subst h9
    refine lv_imul cx.x cx.b dX11_worthOf_114 ?_
    exact ret_i (sBeg 4 0 (sBeg 4 5 σ), th, fl, 0) cx hw ⟨rfl, by rw [← fW0 (by decide)]; rfl⟩ dX11_worthOf_115 (Nat.le_of_ble_eq_true rfl) (Nat.le_of_ble_eq_true rfl)
  · refine lv_aload_n cx.x cx.b dX11_worthOf_0 rfl (lv_at hl 0 rfl) ?_
    refine lv_iconst (v := 0) cx.x cx.b dX11_worthOf_1 (by decide) ?_
    refine pt_f cx hw 0 (mw_h σ th fl dv) rfl inX11 tyX11 tyX11_ok nmX11 16 (by decide) tw_773 ⟨rfl, rfl, Or.inl rfl⟩ rfl rfl rfl rfl (Nat.le_of_ble_eq_true rfl) dX11_worthOf_2 (w1 := mw M Q (σ, th, fl, 0)) mw_p16 (fun H locs hw => ?_)
    refine lv_aload_n cx.x cx.b dX11_worthOf_5 rfl (lv_at hl 0 rfl) ?_
    refine gt_f (v := .ref (M 1)) cx hw 0 (mw_h σ th fl 0) rfl inX11 2 (by decide) tw_759 ⟨rfl, rfl, Or.inl rfl⟩ rfl dX11_worthOf_6 ?_
    refine lv_iload_n cx.x cx.b dX11_worthOf_9 rfl (lv_at hl 1 rfl) ?_
    refine ald_i (f := (fun x9 => nI (s_k σ x9))) cx hw 1 0 rfl rfl i rfl hi (by decide) dX11_worthOf_10 ?_
    rw [h9]
    refine lv_tableIn (tgt := 116) cx.x cx.b dX11_worthOf_11 (by decide) (by decide) rfl (by decide) ?_
    refine lv_aload_n cx.x cx.b dX11_worthOf_116 rfl (lv_at hl 0 rfl) ?_
    refine lv_iconst (v := 4) cx.x cx.b dX11_worthOf_117 (by decide) ?_
    refine lv_bipush (v := 6) cx.x cx.b dX11_worthOf_118 (by decide) ?_
    refine cgo_v cx hw (rV_v (q0 := 0) (n := 2) (As := [.int 4, .int 6]) (rest := []) cx hw (c_X11_begin l D M Q σ th fl 0 (by show s_N σ < 2 ^ 30; omega) 4 6) (gd_V tw_847 tw_849 ts_10 tw_4 tw_850) rfl ⟨by decide +kernel, rfl, hl.1, (Nat.le_of_ble_eq_true rfl), ⟨(Nat.le_of_ble_eq_true rfl), (Nat.le_of_ble_eq_true rfl)⟩, ⟨(Nat.le_of_ble_eq_true rfl), (Nat.le_of_ble_eq_true rfl)⟩, rfl, rfl⟩ rfl (mw_h σ th fl 0) rfl dX11_worthOf_120) (fun u H locs hp hw => ?_)
    have hp := hp.symm
    subst hp
    refine lv_aload_n cx.x cx.b dX11_worthOf_123 rfl (lv_at hl 0 rfl) ?_
    refine lv_aload_n cx.x cx.b dX11_worthOf_124 rfl (lv_at hl 0 rfl) ?_
    refine gt_f (v := .ref (M 6)) cx hw 0 (mw_h (sBeg 4 6 σ) th fl 0) rfl inX11 7 (by decide) tw_764 ⟨rfl, rfl, Or.inl rfl⟩ rfl dX11_worthOf_125 ?_
    refine lv_iload_n cx.x cx.b dX11_worthOf_128 rfl (lv_at hl 1 rfl) ?_
    refine ald_i (f := (s_F σ 7)) cx hw 6 0 rfl rfl i rfl hi (by decide) dX11_worthOf_129 ?_
    refine lv_if_ne (tgt := 137) cx.x cx.b dX11_worthOf_130 (by decide) (fun hb130 => ?_) (fun hb130 => ?_)
    · refine lv_iconst (v := 0) cx.x cx.b dX11_worthOf_137 (by decide) ?_
      refine pt_f cx hw 0 (mw_h (sBeg 4 6 σ) th fl 0) rfl inX11 tyX11 tyX11_ok nmX11 16 (by decide) tw_773 ⟨rfl, rfl, Or.inl rfl⟩ rfl rfl rfl rfl (Nat.le_of_ble_eq_true rfl) dX11_worthOf_138 (w1 := mw M Q (sBeg 4 6 σ, th, fl, 0)) mw_p16 (fun H locs hw => ?_)
      refine lv_aload_n cx.x cx.b dX11_worthOf_141 rfl (lv_at hl 0 rfl) ?_
      refine lv_dup cx.x cx.b dX11_worthOf_142 rfl ?_
      refine gt_f (v := .int (s_c σ 6)) cx hw 0 (mw_h (sBeg 4 6 σ) th fl 0) rfl inX11 14 (by decide) tw_771 ⟨rfl, rfl, Or.inl rfl⟩ rfl dX11_worthOf_143 ?_
      refine lv_aload_n cx.x cx.b dX11_worthOf_146 rfl (lv_at hl 0 rfl) ?_
      refine gt_f (v := .int 0) cx hw 0 (mw_h (sBeg 4 6 σ) th fl 0) rfl inX11 16 (by decide) tw_773 ⟨rfl, rfl, Or.inl rfl⟩ rfl dX11_worthOf_147 ?_
      refine lv_if_eq (tgt := 157) cx.x cx.b dX11_worthOf_150 (by decide) (fun hb150 => ?_) (fun hb150 => absurd rfl hb150)
      refine lv_iconst (v := 0) cx.x cx.b dX11_worthOf_157 (by decide) ?_
      refine lv_iadd cx.x cx.b dX11_worthOf_158 ?_
      refine pt_f cx hw 0 (mw_h (sBeg 4 6 σ) th fl 0) rfl inX11 tyX11 tyX11_ok nmX11 14 (by decide) tw_771 ⟨rfl, rfl, Or.inl rfl⟩ rfl rfl rfl rfl (Nat.le_of_ble_eq_true rfl) dX11_worthOf_159 (w1 := mw M Q (sC 6 ((s_c σ 6) + 0) (sBeg 4 6 σ), th, fl, 0)) mw_p14 (fun H locs hw => ?_)
      refine lv_aload_n cx.x cx.b dX11_worthOf_162 rfl (lv_at hl 0 rfl) ?_
      refine gt_f (v := .int 0) cx hw 0 (mw_h (sC 6 ((s_c σ 6) + 0) (sBeg 4 6 σ)) th fl 0) rfl inX11 16 (by decide) tw_773 ⟨rfl, rfl, Or.inl rfl⟩ rfl dX11_worthOf_163 ?_
      refine lv_if_eq (tgt := 173) cx.x cx.b dX11_worthOf_166 (by decide) (fun hb166 => ?_) (fun hb166 => absurd rfl hb166)
      refine lv_sipush (v := 1000) cx.x cx.b dX11_worthOf_173 (by decide) ?_
      refine lv_aload_n cx.x cx.b dX11_worthOf_176 rfl (lv_at hl 0 rfl) ?_
      refine gt_f (v := .ref (M 6)) cx hw 0 (mw_h (sC 6 ((s_c σ 6) + 0) (sBeg 4 6 σ)) th fl 0) rfl inX11 7 (by decide) tw_764 ⟨rfl, rfl, Or.inl rfl⟩ rfl dX11_worthOf_177 ?_
      refine lv_iload_n cx.x cx.b dX11_worthOf_180 rfl (lv_at hl 1 rfl) ?_
      refine ald_i (f := (s_F σ 7)) cx hw 6 0 rfl rfl i rfl hi (by decide) dX11_worthOf_181 ?_
      refine lv_idiv cx.x cx.b dX11_worthOf_182 hb130 ?_
      exact ret_i (sC 6 ((s_c σ 6) + 0) (sBeg 4 6 σ), th, fl, 0) cx hw ⟨by rw [(worth6n hb130).2], by rw [(worth6n hb130).1, ← b01_0 (b := fWorth 6 i σ) (fun g => hb130 g.2)]; exact congrArg (fun x => (x, th, fl, (0 : Int32))) (sC_self (σ := sBeg 4 6 σ))⟩ dX11_worthOf_183 (Nat.le_of_ble_eq_true rfl) (Nat.le_of_ble_eq_true rfl)
    · refine lv_iconst (v := 1) cx.x cx.b dX11_worthOf_133 (by decide) ?_
      refine lv_goto (tgt := 138) cx.x cx.b dX11_worthOf_134 (by decide) ?_
      refine pt_f cx hw 0 (mw_h (sBeg 4 6 σ) th fl 0) rfl inX11 tyX11 tyX11_ok nmX11 16 (by decide) tw_773 ⟨rfl, rfl, Or.inl rfl⟩ rfl rfl rfl rfl (Nat.le_of_ble_eq_true rfl) dX11_worthOf_138 (w1 := mw M Q (sBeg 4 6 σ, th, fl, 1)) mw_p16 (fun H locs hw => ?_)
      refine lv_aload_n cx.x cx.b dX11_worthOf_141 rfl (lv_at hl 0 rfl) ?_
      refine lv_dup cx.x cx.b dX11_worthOf_142 rfl ?_
      refine gt_f (v := .int (s_c σ 6)) cx hw 0 (mw_h (sBeg 4 6 σ) th fl 1) rfl inX11 14 (by decide) tw_771 ⟨rfl, rfl, Or.inl rfl⟩ rfl dX11_worthOf_143 ?_
      refine lv_aload_n cx.x cx.b dX11_worthOf_146 rfl (lv_at hl 0 rfl) ?_
      refine gt_f (v := .int 1) cx hw 0 (mw_h (sBeg 4 6 σ) th fl 1) rfl inX11 16 (by decide) tw_773 ⟨rfl, rfl, Or.inl rfl⟩ rfl dX11_worthOf_147 ?_
      refine lv_if_eq (tgt := 157) cx.x cx.b dX11_worthOf_150 (by decide) (fun hb150 => absurd hb150 (by decide)) (fun hb150 => ?_)
      refine lv_iconst (v := 1) cx.x cx.b dX11_worthOf_153 (by decide) ?_
      refine lv_goto (tgt := 158) cx.x cx.b dX11_worthOf_154 (by decide) ?_
      refine lv_iadd cx.x cx.b dX11_worthOf_158 ?_
      refine pt_f cx hw 0 (mw_h (sBeg 4 6 σ) th fl 1) rfl inX11 tyX11 tyX11_ok nmX11 14 (by decide) tw_771 ⟨rfl, rfl, Or.inl rfl⟩ rfl rfl rfl rfl (Nat.le_of_ble_eq_true rfl) dX11_worthOf_159 (w1 := mw M Q (sC 6 ((s_c σ 6) + 1) (sBeg 4 6 σ), th, fl, 1)) mw_p14 (fun H locs hw => ?_)
      refine lv_aload_n cx.x cx.b dX11_worthOf_162 rfl (lv_at hl 0 rfl) ?_
      refine gt_f (v := .int 1) cx hw 0 (mw_h (sC 6 ((s_c σ 6) + 1) (sBeg 4 6 σ)) th fl 1) rfl inX11 16 (by decide) tw_773 ⟨rfl, rfl, Or.inl rfl⟩ rfl dX11_worthOf_163 ?_
      refine lv_if_eq (tgt := 173) cx.x cx.b dX11_worthOf_166 (by decide) (fun hb166 => absurd hb166 (by decide)) (fun hb166 => ?_)
      refine lv_iconst (v := 0) cx.x cx.b dX11_worthOf_169 (by decide) ?_
      refine lv_goto (tgt := 183) cx.x cx.b dX11_worthOf_170 (by decide) ?_
      exact ret_i (sC 6 ((s_c σ 6) + 1) (sBeg 4 6 σ), th, fl, 1) cx hw ⟨by rw [(worth6p hb130).2], by rw [(worth6p hb130).1, ← b01_1 (b := fWorth 6 i σ) ⟨rfl, hb130⟩]; rfl⟩ dX11_worthOf_183 (Nat.le_of_ble_eq_true rfl) (Nat.le_of_ble_eq_true rfl)
  · refine lv_aload_n cx.x cx.b dX11_worthOf_0 rfl (lv_at hl 0 rfl) ?_
    refine lv_iconst (v := 0) cx.x cx.b dX11_worthOf_1 (by decide) ?_
    refine pt_f cx hw 0 (mw_h σ th fl dv) rfl inX11 tyX11 tyX11_ok nmX11 16 (by decide) tw_773 ⟨rfl, rfl, Or.inl rfl⟩ rfl rfl rfl rfl (Nat.le_of_ble_eq_true rfl) dX11_worthOf_2 (w1 := mw M Q (σ, th, fl, 0)) mw_p16 (fun H locs hw => ?_)
    refine lv_aload_n cx.x cx.b dX11_worthOf_5 rfl (lv_at hl 0 rfl) ?_
    refine gt_f (v := .ref (M 1)) cx hw 0 (mw_h σ th fl 0) rfl inX11 2 (by decide) tw_759 ⟨rfl, rfl, Or.inl rfl⟩ rfl dX11_worthOf_6 ?_
    refine lv_iload_n cx.x cx.b dX11_worthOf_9 rfl (lv_at hl 1 rfl) ?_
    refine ald_i (f := (fun x9 => nI (s_k σ x9))) cx hw 1 0 rfl rfl i rfl hi (by decide) dX11_worthOf_10 ?_
    rw [h9]
    refine lv_tableIn (tgt := 59) cx.x cx.b dX11_worthOf_11 (by decide) (by decide) rfl (by decide) ?_
    refine lv_aload_n cx.x cx.b dX11_worthOf_59 rfl (lv_at hl 0 rfl) ?_
    refine lv_iconst (v := 4) cx.x cx.b dX11_worthOf_60 (by decide) ?_
    refine lv_bipush (v := 7) cx.x cx.b dX11_worthOf_61 (by decide) ?_
    refine cgo_v cx hw (rV_v (q0 := 0) (n := 2) (As := [.int 4, .int 7]) (rest := []) cx hw (c_X11_begin l D M Q σ th fl 0 (by show s_N σ < 2 ^ 30; omega) 4 7) (gd_V tw_847 tw_849 ts_10 tw_4 tw_850) rfl ⟨by decide +kernel, rfl, hl.1, (Nat.le_of_ble_eq_true rfl), ⟨(Nat.le_of_ble_eq_true rfl), (Nat.le_of_ble_eq_true rfl)⟩, ⟨(Nat.le_of_ble_eq_true rfl), (Nat.le_of_ble_eq_true rfl)⟩, rfl, rfl⟩ rfl (mw_h σ th fl 0) rfl dX11_worthOf_63) (fun u H locs hp hw => ?_)
    have hp := hp.symm
    subst hp
    refine lv_aload_n cx.x cx.b dX11_worthOf_66 rfl (lv_at hl 0 rfl) ?_
    refine lv_iconst (v := 4) cx.x cx.b dX11_worthOf_67 (by decide) ?_
    refine lv_iconst (v := 4) cx.x cx.b dX11_worthOf_68 (by decide) ?_
    refine cgo_v cx hw (rV_v (q0 := 0) (n := 2) (As := [.int 4, .int 4]) (rest := []) cx hw (c_X11_begin l D M Q (sBeg 4 7 σ) th fl 0 (by show s_N σ + 1 < 2 ^ 30; omega) 4 4) (gd_V tw_847 tw_849 ts_10 tw_4 tw_850) rfl ⟨by decide +kernel, rfl, hl.1, (Nat.le_of_ble_eq_true rfl), ⟨(Nat.le_of_ble_eq_true rfl), (Nat.le_of_ble_eq_true rfl)⟩, ⟨(Nat.le_of_ble_eq_true rfl), (Nat.le_of_ble_eq_true rfl)⟩, rfl, rfl⟩ rfl (mw_h (sBeg 4 7 σ) th fl 0) rfl dX11_worthOf_69) (fun u H locs hp hw => ?_)
    have hp := hp.symm
    subst hp
    refine lv_aload_n cx.x cx.b dX11_worthOf_72 rfl (lv_at hl 0 rfl) ?_
    refine lv_iload_n cx.x cx.b dX11_worthOf_73 rfl (lv_at hl 1 rfl) ?_
    refine cgo_i cx hw (rV_i (q0 := 0) (n := 1) (As := [.int (nI i)]) (rest := []) cx hw (c_X11_plainWorth l D M Q (sBeg 4 4 (sBeg 4 7 σ)) th fl 0 i hi (by show s_N σ + 1 + 1 + 1 < 2 ^ 30; omega)) (gd_V tw_903 tw_905 ts_20 tw_4 tw_906) rfl ⟨by decide +kernel, rfl, hl.1, (Nat.le_of_ble_eq_true rfl), ⟨(Nat.le_of_ble_eq_true rfl), (Nat.le_of_ble_eq_true rfl)⟩, ⟨(Nat.le_of_ble_eq_true rfl), (Nat.le_of_ble_eq_true rfl)⟩, rfl, rfl⟩ rfl (mw_h (sBeg 4 4 (sBeg 4 7 σ)) th fl 0) rfl dX11_worthOf_74) (fun r u H locs hp hw => ?_)
    obtain ⟨h8, h9⟩ := hp
    have h8 := h8.symm
    have h9 := h9.symm
    subst h8
    subst h9
    refine lv_aload_n cx.x cx.b dX11_worthOf_77 rfl (lv_at hl 0 rfl) ?_
    refine gt_f (v := .ref (M 5)) cx hw 0 (mw_h (sBeg 4 0 (sBeg 4 4 (sBeg 4 7 σ))) th fl 0) rfl inX11 6 (by decide) tw_763 ⟨rfl, rfl, Or.inl rfl⟩ rfl dX11_worthOf_78 ?_
    refine lv_iload_n cx.x cx.b dX11_worthOf_81 rfl (lv_at hl 1 rfl) ?_
    refine ald_i (f := (s_F σ 6)) cx hw 5 0 rfl rfl i rfl hi (by decide) dX11_worthOf_82 ?_
    refine lv_iadd cx.x cx.b dX11_worthOf_83 ?_
    refine lv_aload_n cx.x cx.b dX11_worthOf_84 rfl (lv_at hl 0 rfl) ?_
    refine gt_f (v := .ref (M 6)) cx hw 0 (mw_h (sBeg 4 0 (sBeg 4 4 (sBeg 4 7 σ))) th fl 0) rfl inX11 7 (by decide) tw_764 ⟨rfl, rfl, Or.inl rfl⟩ rfl dX11_worthOf_85 ?_
    refine lv_iload_n cx.x cx.b dX11_worthOf_88 rfl (lv_at hl 1 rfl) ?_
    refine ald_i (f := (s_F σ 7)) cx hw 6 0 rfl rfl i rfl hi (by decide) dX11_worthOf_89 ?_
    refine lv_bipush (v := 20) cx.x cx.b dX11_worthOf_90 (by decide) ?_
    refine lv_icmp_lt (tgt := 99) cx.x cx.b dX11_worthOf_92 (by decide) (fun hb92 => ?_) (fun hb92 => ?_)
    · refine lv_iconst (v := 0) cx.x cx.b dX11_worthOf_99 (by decide) ?_
      refine lv_iadd cx.x cx.b dX11_worthOf_100 ?_
      exact ret_i (sBeg 4 0 (sBeg 4 4 (sBeg 4 7 σ)), th, fl, 0) cx hw ⟨by show _ = vW0 i σ + s_F σ 6 i + (if 20 ≤ s_F σ 7 i then 5 else 0); rw [if_neg (Int32.not_le.mpr hb92)]; rfl, by rw [← fW0 (by decide)]; rfl⟩ dX11_worthOf_101 (Nat.le_of_ble_eq_true rfl) (Nat.le_of_ble_eq_true rfl)
    · refine lv_iconst (v := 5) cx.x cx.b dX11_worthOf_95 (by decide) ?_
      refine lv_goto (tgt := 100) cx.x cx.b dX11_worthOf_96 (by decide) ?_
      refine lv_iadd cx.x cx.b dX11_worthOf_100 ?_
      exact ret_i (sBeg 4 0 (sBeg 4 4 (sBeg 4 7 σ)), th, fl, 0) cx hw ⟨by show _ = vW0 i σ + s_F σ 6 i + (if 20 ≤ s_F σ 7 i then 5 else 0); rw [if_pos (Int32.not_lt.mp hb92)]; rfl, by rw [← fW0 (by decide)]; rfl⟩ dX11_worthOf_101 (Nat.le_of_ble_eq_true rfl) (Nat.le_of_ble_eq_true rfl)
set_option maxHeartbeats 4000000 in
set_option maxRecDepth 100000 in
theorem c_X11_plainLay (l : Launch) (D : va_G) (M : Nat → Nat) (Q : Nat → ClassId) (σ : St) (th fl dv : Int32) (i : Nat) (hi : i < 20) (hb : s_N σ + 1 < 2 ^ 30) (k : Nat) (hk : k < 4) (hz : s_z σ k = -1 ∨ ∃ j, j ≤ 8 ∧ s_z σ k = nI j) (pl : Int32) : MI l yX11_plainLay cX11_plainLay 5 .int ({ frames := 1, cells := 0, slots := 0, locals := 22 }) D cls (tyl Q) [.ref (M 0), .int (nI i), .int (nI k), .int pl] (mw M Q) (mw M Q (σ, th, fl, dv)) (fun r u => r = nI (layW (s_z σ k) pl) ∧ u = (lay0 i k pl σ, th, fl, dv)) 0 0 := by
  refine MI_of (by decide) (Nat.le_of_ble_eq_true rfl) ?_
  intro p e s m args below meth c A ls cx hw hl
  have hl : lv_has ls 5 [(0, .ref (M 0)), (1, .int (nI i)), (2, .int (nI k)), (3, .int pl)] := hl
  by_cases hz0 : s_z σ k = -1
  · refine lv_aload_n cx.x cx.b dX11_plainLay_0 rfl (lv_at hl 0 rfl) ?_
    refine lv_iconst (v := 2) cx.x cx.b dX11_plainLay_1 (by decide) ?_
    refine lv_iconst (v := 0) cx.x cx.b dX11_plainLay_2 (by decide) ?_
    refine cgo_v cx hw (rV_v (q0 := 0) (n := 2) (As := [.int 2, .int 0]) (rest := []) cx hw (c_X11_begin l D M Q σ th fl dv (by show s_N σ < 2 ^ 30; omega) 2 0) (gd_V tw_847 tw_849 ts_10 tw_4 tw_850) rfl ⟨by decide +kernel, rfl, hl.1, (Nat.le_of_ble_eq_true rfl), ⟨(Nat.le_of_ble_eq_true rfl), (Nat.le_of_ble_eq_true rfl)⟩, ⟨(Nat.le_of_ble_eq_true rfl), (Nat.le_of_ble_eq_true rfl)⟩, rfl, rfl⟩ rfl (mw_h σ th fl dv) rfl dX11_plainLay_3) (fun u H locs hp hw => ?_)
    have hp := hp.symm
    subst hp
    refine lv_aload_n cx.x cx.b dX11_plainLay_6 rfl (lv_at hl 0 rfl) ?_
    refine gt_f (v := .ref (M 7)) cx hw 0 (mw_h (sBeg 2 0 σ) th fl dv) rfl inX11 8 (by decide) tw_765 ⟨rfl, rfl, Or.inl rfl⟩ rfl dX11_plainLay_7 ?_
    refine lv_iload_n cx.x cx.b dX11_plainLay_10 rfl (lv_at hl 2 rfl) ?_
    refine ald_i (f := (s_z σ)) cx hw 7 0 rfl rfl k rfl hk (by decide) dX11_plainLay_11 ?_
    refine lv_iconst (v := (-1)) cx.x cx.b dX11_plainLay_12 (by decide) ?_
    refine lv_icmp_ne (tgt := 20) cx.x cx.b dX11_plainLay_13 (by decide) (fun hb13 => absurd hz0 hb13) (fun hb13 => ?_)
    refine lv_iconst (v := 1) cx.x cx.b dX11_plainLay_16 (by decide) ?_
    refine lv_goto (tgt := 41) cx.x cx.b dX11_plainLay_17 (by decide) ?_
    refine lv_istore (lv' := [(4, .int 1), (0, .ref (M 0)), (1, .int (nI i)), (2, .int (nI k)), (3, .int pl)]) cx.x cx.b dX11_plainLay_41 hl (by decide) rfl (fun ls hl => ?_)
    refine lv_iload cx.x cx.b dX11_plainLay_43 (lv_at hl 0 rfl) ?_
    refine lv_if_ne (tgt := 60) cx.x cx.b dX11_plainLay_45 (by decide) (fun hb45 => ?_) (fun hb45 => absurd hb45 (by decide))
    refine lv_iload cx.x cx.b dX11_plainLay_60 (lv_at hl 0 rfl) ?_
    exact ret_i (sBeg 2 0 σ, th, fl, dv) cx hw ⟨by rw [layW_1 hz0]; rfl, by rw [lay0_n (by rw [layW_1 hz0]; decide)]⟩ dX11_plainLay_62 (Nat.le_of_ble_eq_true rfl) (Nat.le_of_ble_eq_true rfl)
  · have hzj := hz.resolve_left hz0
    by_cases hpp : hasP (s_z σ k) pl
    · obtain ⟨j, hj, rfl, hjz⟩ := hasP_nI hpp
      refine lv_aload_n cx.x cx.b dX11_plainLay_0 rfl (lv_at hl 0 rfl) ?_
      refine lv_iconst (v := 2) cx.x cx.b dX11_plainLay_1 (by decide) ?_
      refine lv_iconst (v := 0) cx.x cx.b dX11_plainLay_2 (by decide) ?_
      refine cgo_v cx hw (rV_v (q0 := 0) (n := 2) (As := [.int 2, .int 0]) (rest := []) cx hw (c_X11_begin l D M Q σ th fl dv (by show s_N σ < 2 ^ 30; omega) 2 0) (gd_V tw_847 tw_849 ts_10 tw_4 tw_850) rfl ⟨by decide +kernel, rfl, hl.1, (Nat.le_of_ble_eq_true rfl), ⟨(Nat.le_of_ble_eq_true rfl), (Nat.le_of_ble_eq_true rfl)⟩, ⟨(Nat.le_of_ble_eq_true rfl), (Nat.le_of_ble_eq_true rfl)⟩, rfl, rfl⟩ rfl (mw_h σ th fl dv) rfl dX11_plainLay_3) (fun u H locs hp hw => ?_)
      have hp := hp.symm
      subst hp
      refine lv_aload_n cx.x cx.b dX11_plainLay_6 rfl (lv_at hl 0 rfl) ?_
      refine gt_f (v := .ref (M 7)) cx hw 0 (mw_h (sBeg 2 0 σ) th fl dv) rfl inX11 8 (by decide) tw_765 ⟨rfl, rfl, Or.inl rfl⟩ rfl dX11_plainLay_7 ?_
      refine lv_iload_n cx.x cx.b dX11_plainLay_10 rfl (lv_at hl 2 rfl) ?_
      refine ald_i (f := (s_z σ)) cx hw 7 0 rfl rfl k rfl hk (by decide) dX11_plainLay_11 ?_
      refine lv_iconst (v := (-1)) cx.x cx.b dX11_plainLay_12 (by decide) ?_
      refine lv_icmp_ne (tgt := 20) cx.x cx.b dX11_plainLay_13 (by decide) (fun hb13 => ?_) (fun hb13 => absurd hb13 hz0)
      refine lv_iload_n cx.x cx.b dX11_plainLay_20 rfl (lv_at hl 3 rfl) ?_
      refine lv_iconst (v := 0) cx.x cx.b dX11_plainLay_21 (by decide) ?_
      refine lv_aload_n cx.x cx.b dX11_plainLay_22 rfl (lv_at hl 0 rfl) ?_
      refine gt_f (v := .ref (M 7)) cx hw 0 (mw_h (sBeg 2 0 σ) th fl dv) rfl inX11 8 (by decide) tw_765 ⟨rfl, rfl, Or.inl rfl⟩ rfl dX11_plainLay_23 ?_
      refine lv_iload_n cx.x cx.b dX11_plainLay_26 rfl (lv_at hl 2 rfl) ?_
      refine ald_i (f := (s_z σ)) cx hw 7 0 rfl rfl k rfl hk (by decide) dX11_plainLay_27 ?_
      refine lv_iconst (v := 1) cx.x cx.b dX11_plainLay_28 (by decide) ?_
      refine lv_isub cx.x cx.b dX11_plainLay_29 ?_
      refine cgo_i cx hw (rS_i (n := 3) (As := [.int (nI j), .int 0, .int ((s_z σ k) - 1)]) (rest := []) cx hw (c_X11_within l D M Q (sBeg 2 0 σ) th fl dv (nI j) 0 ((s_z σ k) - 1)) (gd_S tw_817 tw_818 tw_4 tw_819) ⟨by decide +kernel, rfl, hl.1, (Nat.le_of_ble_eq_true rfl), ⟨(Nat.le_of_ble_eq_true rfl), (Nat.le_of_ble_eq_true rfl)⟩, ⟨(Nat.le_of_ble_eq_true rfl), (Nat.le_of_ble_eq_true rfl)⟩, rfl, rfl⟩ rfl dX11_plainLay_30) (fun r u H locs hp hw => ?_)
      obtain ⟨h8, h9⟩ := hp
      have h8 := h8.symm
      have h9 := h9.symm
      subst h8
      subst h9
      refine lv_if_eq (tgt := 40) cx.x cx.b dX11_plainLay_33 (by decide) (fun hb33 => absurd hpp ((isP hzj).mp hb33)) (fun hb33 => ?_)
      refine lv_iconst (v := 0) cx.x cx.b dX11_plainLay_36 (by decide) ?_
      refine lv_goto (tgt := 41) cx.x cx.b dX11_plainLay_37 (by decide) ?_
      refine lv_istore (lv' := [(4, .int 0), (0, .ref (M 0)), (1, .int (nI i)), (2, .int (nI k)), (3, .int (nI j))]) cx.x cx.b dX11_plainLay_41 hl (by decide) rfl (fun ls hl => ?_)
      refine lv_iload cx.x cx.b dX11_plainLay_43 (lv_at hl 0 rfl) ?_
      refine lv_if_ne (tgt := 60) cx.x cx.b dX11_plainLay_45 (by decide) (fun hb45 => absurd rfl hb45) (fun hb45 => ?_)
      refine lv_aload_n cx.x cx.b dX11_plainLay_48 rfl (lv_at hl 1 rfl) ?_
      refine gt_f (v := .ref (M 8)) cx hw 0 (mw_h (sBeg 2 0 σ) th fl dv) rfl inX11 9 (by decide) tw_766 ⟨rfl, rfl, Or.inl rfl⟩ rfl dX11_plainLay_49 ?_
      refine lv_bipush (v := 8) cx.x cx.b dX11_plainLay_52 (by decide) ?_
      refine lv_iload_n cx.x cx.b dX11_plainLay_54 rfl (lv_at hl 3 rfl) ?_
      refine lv_imul cx.x cx.b dX11_plainLay_55 ?_
      refine lv_iload_n cx.x cx.b dX11_plainLay_56 rfl (lv_at hl 4 rfl) ?_
      refine lv_iadd cx.x cx.b dX11_plainLay_57 ?_
      refine lv_iload_n cx.x cx.b dX11_plainLay_58 rfl (lv_at hl 2 rfl) ?_
      refine ast_i (f := (fun x9 => s_r σ (x9 / 8) (x9 % 8))) cx hw 8 0 rfl rfl (8 * k + j) i8 (by omega) (by decide) dX11_plainLay_59 (w1 := mw M Q (sR k j (nI i) (sBeg 2 0 σ), th, fl, dv)) (mw_a8 hj) (fun H locs hw => ?_)
      refine lv_iload cx.x cx.b dX11_plainLay_60 (lv_at hl 0 rfl) ?_
      exact ret_i (sR k j (nI i) (sBeg 2 0 σ), th, fl, dv) cx hw ⟨by rw [layW_0 hz0 hpp]; rfl, by rw [lay0_p (layW_0 hz0 hpp)]; unfold pL0; rw [row_clamp hj]⟩ dX11_plainLay_62 (Nat.le_of_ble_eq_true rfl) (Nat.le_of_ble_eq_true rfl)
    · refine lv_aload_n cx.x cx.b dX11_plainLay_0 rfl (lv_at hl 0 rfl) ?_
      refine lv_iconst (v := 2) cx.x cx.b dX11_plainLay_1 (by decide) ?_
      refine lv_iconst (v := 0) cx.x cx.b dX11_plainLay_2 (by decide) ?_
      refine cgo_v cx hw (rV_v (q0 := 0) (n := 2) (As := [.int 2, .int 0]) (rest := []) cx hw (c_X11_begin l D M Q σ th fl dv (by show s_N σ < 2 ^ 30; omega) 2 0) (gd_V tw_847 tw_849 ts_10 tw_4 tw_850) rfl ⟨by decide +kernel, rfl, hl.1, (Nat.le_of_ble_eq_true rfl), ⟨(Nat.le_of_ble_eq_true rfl), (Nat.le_of_ble_eq_true rfl)⟩, ⟨(Nat.le_of_ble_eq_true rfl), (Nat.le_of_ble_eq_true rfl)⟩, rfl, rfl⟩ rfl (mw_h σ th fl dv) rfl dX11_plainLay_3) (fun u H locs hp hw => ?_)
      have hp := hp.symm
      subst hp
      refine lv_aload_n cx.x cx.b dX11_plainLay_6 rfl (lv_at hl 0 rfl) ?_
      refine gt_f (v := .ref (M 7)) cx hw 0 (mw_h (sBeg 2 0 σ) th fl dv) rfl inX11 8 (by decide) tw_765 ⟨rfl, rfl, Or.inl rfl⟩ rfl dX11_plainLay_7 ?_
      refine lv_iload_n cx.x cx.b dX11_plainLay_10 rfl (lv_at hl 2 rfl) ?_
      refine ald_i (f := (s_z σ)) cx hw 7 0 rfl rfl k rfl hk (by decide) dX11_plainLay_11 ?_
      refine lv_iconst (v := (-1)) cx.x cx.b dX11_plainLay_12 (by decide) ?_
      refine lv_icmp_ne (tgt := 20) cx.x cx.b dX11_plainLay_13 (by decide) (fun hb13 => ?_) (fun hb13 => absurd hb13 hz0)
      refine lv_iload_n cx.x cx.b dX11_plainLay_20 rfl (lv_at hl 3 rfl) ?_
      refine lv_iconst (v := 0) cx.x cx.b dX11_plainLay_21 (by decide) ?_
      refine lv_aload_n cx.x cx.b dX11_plainLay_22 rfl (lv_at hl 0 rfl) ?_
      refine gt_f (v := .ref (M 7)) cx hw 0 (mw_h (sBeg 2 0 σ) th fl dv) rfl inX11 8 (by decide) tw_765 ⟨rfl, rfl, Or.inl rfl⟩ rfl dX11_plainLay_23 ?_
      refine lv_iload_n cx.x cx.b dX11_plainLay_26 rfl (lv_at hl 2 rfl) ?_
      refine ald_i (f := (s_z σ)) cx hw 7 0 rfl rfl k rfl hk (by decide) dX11_plainLay_27 ?_
      refine lv_iconst (v := 1) cx.x cx.b dX11_plainLay_28 (by decide) ?_
      refine lv_isub cx.x cx.b dX11_plainLay_29 ?_
      refine cgo_i cx hw (rS_i (n := 3) (As := [.int pl, .int 0, .int ((s_z σ k) - 1)]) (rest := []) cx hw (c_X11_within l D M Q (sBeg 2 0 σ) th fl dv pl 0 ((s_z σ k) - 1)) (gd_S tw_817 tw_818 tw_4 tw_819) ⟨by decide +kernel, rfl, hl.1, (Nat.le_of_ble_eq_true rfl), ⟨(Nat.le_of_ble_eq_true rfl), (Nat.le_of_ble_eq_true rfl)⟩, ⟨(Nat.le_of_ble_eq_true rfl), (Nat.le_of_ble_eq_true rfl)⟩, rfl, rfl⟩ rfl dX11_plainLay_30) (fun r u H locs hp hw => ?_)
      obtain ⟨h8, h9⟩ := hp
      have h8 := h8.symm
      have h9 := h9.symm
      subst h8
      subst h9
      refine lv_if_eq (tgt := 40) cx.x cx.b dX11_plainLay_33 (by decide) (fun hb33 => ?_) (fun hb33 => absurd ((isP hzj).mpr hpp) hb33)
      refine lv_iconst (v := 2) cx.x cx.b dX11_plainLay_40 (by decide) ?_
      refine lv_istore (lv' := [(4, .int 2), (0, .ref (M 0)), (1, .int (nI i)), (2, .int (nI k)), (3, .int pl)]) cx.x cx.b dX11_plainLay_41 hl (by decide) rfl (fun ls hl => ?_)
      refine lv_iload cx.x cx.b dX11_plainLay_43 (lv_at hl 0 rfl) ?_
      refine lv_if_ne (tgt := 60) cx.x cx.b dX11_plainLay_45 (by decide) (fun hb45 => ?_) (fun hb45 => absurd hb45 (by decide))
      refine lv_iload cx.x cx.b dX11_plainLay_60 (lv_at hl 0 rfl) ?_
      exact ret_i (sBeg 2 0 σ, th, fl, dv) cx hw ⟨by rw [layW_2 hz0 hpp]; rfl, by rw [lay0_n (by rw [layW_2 hz0 hpp]; decide)]⟩ dX11_plainLay_62 (Nat.le_of_ble_eq_true rfl) (Nat.le_of_ble_eq_true rfl)
