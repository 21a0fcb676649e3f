set_option maxHeartbeats 4000000 in
set_option maxRecDepth 100000 in
theorem c_X7_bringIn (l : Launch) (D : va_G) (G : Nat → Nat) (Q : Nat → ClassId) (σ : St) (k : Nat) (hk : k < 4) (nn : Int32) : MV l yX7_bringIn cX7_bringIn 3 ({ frames := 0, cells := 0, slots := 0, locals := 0 }) D cls (tyl Q) [.ref (G (5 + k)), .int nn] (kw G Q) (kw G Q σ) (fun u => u = clr k (sZ k nn σ) 8) 0 0 := by
  refine MV_of (by decide) (Nat.le_of_ble_eq_true rfl) ?_
  intro p e s m args below meth c A ls cx hw hl
  have hl : lv_has ls 3 [(0, .ref (G (5 + k))), (1, .int nn)] := hl
  refine lv_aload_n cx.x cx.b dX7_bringIn_0 rfl (lv_at hl 0 rfl) ?_
  refine lv_iload_n cx.x cx.b dX7_bringIn_1 rfl (lv_at hl 1 rfl) ?_
  refine pt_f cx hw (5 + k) (kw_s σ hk) rfl inX7 tyX7 tyX7_ok nmX7 1 (by decide) tw_76 ⟨rfl, rfl, Or.inl rfl⟩ rfl rfl rfl rfl (Nat.le_of_ble_eq_true rfl) dX7_bringIn_2 (w1 := kw G Q (sZ k nn σ)) (kw_sZ hk) (fun H locs hw => ?_)
  refine lv_iconst (v := 0) cx.x cx.b dX7_bringIn_5 (by decide) ?_
  refine lv_istore_n (lv' := [(2, .int 0), (0, .ref (G (5 + k))), (1, .int nn)]) cx.x cx.b dX7_bringIn_6 rfl hl (by decide) rfl (fun ls hl => ?_)
  refine loopN 8 (fun _ => 0) (fun _ => 0) (fun j H locs ls => Wd D cls A s H locs (kw G Q (clr k (sZ k nn σ) j)) ∧ lv_has ls 3 [(2, .int (nI j)), (0, .ref (G (5 + k))), (1, .int nn)]) ⟨hw, hl⟩ (fun H locs ls ⟨hw, hl⟩ => ?_) (fun j hj H locs ls ⟨hw, hl⟩ kk => ?_)
  · refine lv_iload_n cx.x cx.b dX7_bringIn_7 rfl (lv_at hl 0 rfl) ?_
    refine lv_bipush (v := 8) cx.x cx.b dX7_bringIn_8 (by decide) ?_
    refine lv_icmp_ge (tgt := 26) cx.x cx.b dX7_bringIn_10 (by decide) (fun hb10 => ?_) (fun hb10 => absurd (by decide) hb10)
    exact ret_v (clr k (sZ k nn σ) 8) cx hw rfl dX7_bringIn_26 (Nat.le_of_ble_eq_true rfl) (Nat.le_of_ble_eq_true rfl)
  · refine lv_iload_n cx.x cx.b dX7_bringIn_7 rfl (lv_at hl 0 rfl) ?_
    refine lv_bipush (v := 8) cx.x cx.b dX7_bringIn_8 (by decide) ?_
    refine lv_icmp_ge (tgt := 26) cx.x cx.b dX7_bringIn_10 (by decide) (fun hb10 => absurd hb10 (nI_ge hj (by decide))) (fun hb10 => ?_)
    refine lv_aload_n cx.x cx.b dX7_bringIn_13 rfl (lv_at hl 1 rfl) ?_
    refine gt_f (v := .ref (G (9 + k))) cx hw (5 + k) (kw_s (clr k (sZ k nn σ) j) hk) rfl inX7 0 (by decide) tw_75 ⟨rfl, rfl, Or.inl rfl⟩ rfl dX7_bringIn_14 ?_
    refine lv_iload_n cx.x cx.b dX7_bringIn_17 rfl (lv_at hl 0 rfl) ?_
    refine lv_iconst (v := (-1)) cx.x cx.b dX7_bringIn_18 (by decide) ?_
    refine ast_i (f := s_r (clr k (sZ k nn σ) j) k) cx hw (9 + k) 0 (kw_row (clr k (sZ k nn σ) j) hk) rfl j rfl hj (by decide) dX7_bringIn_19 (w1 := kw G Q (sR k j (-1) (clr k (sZ k nn σ) j))) (kw_sR hk) (fun H locs hw => ?_)
    refine lv_iinc (v := ((nI j) + 1)) (lv' := [(2, .int ((nI j) + 1)), (0, .ref (G (5 + k))), (1, .int nn)]) cx.x cx.b dX7_bringIn_20 hl (k := 0) rfl rfl (by decide) rfl (fun ls hl => ?_)
    refine lv_goto (tgt := 7) cx.x cx.b dX7_bringIn_23 (by decide) ?_
    rw [nI_1] at hl
    exact kk H locs ls ⟨hw, hl⟩
set_option maxHeartbeats 4000000 in
set_option maxRecDepth 100000 in
theorem c_X2_doLay (l : Launch) (hl0 : l.stackTraces = false) (D : va_G) (G : Nat → Nat) (Q : Nat → ClassId) (σ : St) (i : Nat) (hn : i < s_n σ) (hd : s_k σ i < 8) (k : Nat) (hk : k < 4) (pl : Int32) : XV l yX2_doLay cX2_doLay 3 ({ frames := 11, cells := 1, slots := 8, locals := 200 }) D cls (tyl Q) [.ref (s_a σ i), .ref (G (5 + k)), .int pl] (kw G Q) (kw G Q σ) (fun u => ¬ s_z σ k = -1 ∧ hasP (s_z σ k) pl ∧ u = pL0 i k pl σ) (fun E u => layE (s_z σ k) pl E ∧ u = pLf σ) 1 8 := by
  refine XV_of (by decide) (Nat.le_of_ble_eq_true rfl) ?_
  intro p e s m args below meth c A ls htab cx hw hl
  have hl : lv_has ls 3 [(0, .ref (s_a σ i)), (1, .ref (G (5 + k))), (2, .int pl)] := hl
  by_cases hz0 : s_z σ k = -1
  · refine lv_aload_n cx.x cx.b dX2_doLay_0 rfl (lv_at hl 0 rfl) ?_
    refine gt_f (v := .ref (G 1)) cx hw (13 + i) (kw_d σ hn) (cls_d hd) (inD_all _ hd) 0 (by decide) tw_118 ⟨rfl, rfl, Or.inl rfl⟩ rfl dX2_doLay_1 ?_
    refine lv_iconst (v := 2) cx.x cx.b dX2_doLay_4 (by decide) ?_
    refine lv_iconst (v := 0) cx.x cx.b dX2_doLay_5 (by decide) ?_
    refine cgo_v cx hw (rV_v (q0 := 1) (n := 2) (As := [.int 2, .int 0]) (rest := []) cx hw (c_X0_begin l D G Q σ 2 0) (gd_V tw_330 tw_306 tw_307 tw_2 tw_308) rfl ⟨by decide +kernel, rfl, hl.1, (Nat.le_of_ble_eq_true rfl), ⟨(Nat.le_of_ble_eq_true rfl), (Nat.le_of_ble_eq_true rfl)⟩, ⟨(Nat.le_of_ble_eq_true rfl), (Nat.le_of_ble_eq_true rfl)⟩, rfl, rfl⟩ rfl (kw_b σ) rfl dX2_doLay_6) (fun u H locs hp hw => ?_)
    have hp := hp.symm
    subst hp
    refine lv_aload_n cx.x cx.b dX2_doLay_9 rfl (lv_at hl 1 rfl) ?_
    refine cgo_i cx hw (rV_i (q0 := (5 + k)) (n := 0) (As := []) (rest := []) cx hw (c_X7_isOut l D G Q (sBeg 2 0 σ) k hk) (gd_V tw_657 tw_283 tw_284 tw_3 tw_285) rfl ⟨by decide +kernel, rfl, hl.1, (Nat.le_of_ble_eq_true rfl), ⟨(Nat.le_of_ble_eq_true rfl), (Nat.le_of_ble_eq_true rfl)⟩, ⟨(Nat.le_of_ble_eq_true rfl), (Nat.le_of_ble_eq_true rfl)⟩, rfl, rfl⟩ rfl (kw_s (sBeg 2 0 σ) hk) rfl dX2_doLay_10) (fun r u H locs hp hw => ?_)
    obtain ⟨h8, h9⟩ := hp
    have h8 := h8.symm
    have h9 := h9.symm
    subst h8
    subst h9
    refine lv_if_eq (tgt := 39) cx.x cx.b dX2_doLay_13 (by decide) (fun hb13 => absurd hz0 (b01_eq0.mp hb13)) (fun hb13 => ?_)
    refine lv_aload_n cx.x cx.b dX2_doLay_16 rfl (lv_at hl 0 rfl) ?_
    refine gt_f (v := .ref (G 1)) cx hw (13 + i) (kw_d (sBeg 2 0 σ) hn) (cls_d hd) (inD_all _ hd) 0 (by decide) tw_118 ⟨rfl, rfl, Or.inl rfl⟩ rfl dX2_doLay_17 ?_
    refine lv_dup cx.x cx.b dX2_doLay_20 rfl ?_
    refine gt_f (v := .int (s_c σ 5)) cx hw 1 (kw_b (sBeg 2 0 σ)) rfl inX0 5 (by decide) tw_47 ⟨rfl, rfl, Or.inl rfl⟩ rfl dX2_doLay_21 ?_
    refine lv_iconst (v := 1) cx.x cx.b dX2_doLay_24 (by decide) ?_
    refine lv_iadd cx.x cx.b dX2_doLay_25 ?_
    refine pt_f cx hw 1 (kw_b (sBeg 2 0 σ)) rfl inX0 tyX0 tyX0_ok nmX0 5 (by decide) tw_47 ⟨rfl, rfl, Or.inl rfl⟩ rfl rfl rfl rfl (Nat.le_of_ble_eq_true rfl) dX2_doLay_26 (w1 := kw G Q (sC 5 ((s_c σ 5) + 1) (sBeg 2 0 σ))) (kw_sC (by decide)) (fun H locs hw => ?_)
    exact thr_npe (sC 5 ((s_c σ 5) + 1) (sBeg 2 0 σ)) hl0 htab cx hw hl.1 dX2_doLay_29 dX2_doLay_32 dX2_doLay_33 dX2_doLay_35 dX2_doLay_38 ⟨(Nat.le_of_ble_eq_true rfl), (Nat.le_of_ble_eq_true rfl), (Nat.le_of_ble_eq_true rfl), (Nat.le_of_ble_eq_true rfl)⟩ ⟨Or.inl ⟨hz0, rfl⟩, rfl⟩ (Nat.le_of_ble_eq_true rfl) (Nat.le_of_ble_eq_true rfl)
  · by_cases hpp : hasP (s_z σ k) pl
    · obtain ⟨j, hj, rfl, hz⟩ := hasP_nI hpp
      refine lv_aload_n cx.x cx.b dX2_doLay_0 rfl (lv_at hl 0 rfl) ?_
      refine gt_f (v := .ref (G 1)) cx hw (13 + i) (kw_d σ hn) (cls_d hd) (inD_all _ hd) 0 (by decide) tw_118 ⟨rfl, rfl, Or.inl rfl⟩ rfl dX2_doLay_1 ?_
      refine lv_iconst (v := 2) cx.x cx.b dX2_doLay_4 (by decide) ?_
      refine lv_iconst (v := 0) cx.x cx.b dX2_doLay_5 (by decide) ?_
      refine cgo_v cx hw (rV_v (q0 := 1) (n := 2) (As := [.int 2, .int 0]) (rest := []) cx hw (c_X0_begin l D G Q σ 2 0) (gd_V tw_330 tw_306 tw_307 tw_2 tw_308) rfl ⟨by decide +kernel, rfl, hl.1, (Nat.le_of_ble_eq_true rfl), ⟨(Nat.le_of_ble_eq_true rfl), (Nat.le_of_ble_eq_true rfl)⟩, ⟨(Nat.le_of_ble_eq_true rfl), (Nat.le_of_ble_eq_true rfl)⟩, rfl, rfl⟩ rfl (kw_b σ) rfl dX2_doLay_6) (fun u H locs hp hw => ?_)
      have hp := hp.symm
      subst hp
      refine lv_aload_n cx.x cx.b dX2_doLay_9 rfl (lv_at hl 1 rfl) ?_
      refine cgo_i cx hw (rV_i (q0 := (5 + k)) (n := 0) (As := []) (rest := []) cx hw (c_X7_isOut l D G Q (sBeg 2 0 σ) k hk) (gd_V tw_657 tw_283 tw_284 tw_3 tw_285) rfl ⟨by decide +kernel, rfl, hl.1, (Nat.le_of_ble_eq_true rfl), ⟨(Nat.le_of_ble_eq_true rfl), (Nat.le_of_ble_eq_true rfl)⟩, ⟨(Nat.le_of_ble_eq_true rfl), (Nat.le_of_ble_eq_true rfl)⟩, rfl, rfl⟩ rfl (kw_s (sBeg 2 0 σ) hk) rfl dX2_doLay_10) (fun r u H locs hp hw => ?_)
      obtain ⟨h8, h9⟩ := hp
      have h8 := h8.symm
      have h9 := h9.symm
      subst h8
      subst h9
      refine lv_if_eq (tgt := 39) cx.x cx.b dX2_doLay_13 (by decide) (fun hb13 => ?_) (fun hb13 => absurd (b01_eq0.mpr hz0) hb13)
      refine lv_aload_n cx.x cx.b dX2_doLay_39 rfl (lv_at hl 1 rfl) ?_
      refine lv_iload_n cx.x cx.b dX2_doLay_40 rfl (lv_at hl 2 rfl) ?_
      refine cgo_i cx hw (rV_i (q0 := (5 + k)) (n := 1) (As := [.int (nI j)]) (rest := []) cx hw (c_X7_has l D G Q (sBeg 2 0 σ) k hk (nI j)) (gd_V tw_664 tw_391 tw_392 tw_3 tw_393) rfl ⟨by decide +kernel, rfl, hl.1, (Nat.le_of_ble_eq_true rfl), ⟨(Nat.le_of_ble_eq_true rfl), (Nat.le_of_ble_eq_true rfl)⟩, ⟨(Nat.le_of_ble_eq_true rfl), (Nat.le_of_ble_eq_true rfl)⟩, rfl, rfl⟩ rfl (kw_s (sBeg 2 0 σ) hk) rfl dX2_doLay_41) (fun r u H locs hp hw => ?_)
      obtain ⟨h8, h9⟩ := hp
      have h8 := h8.symm
      have h9 := h9.symm
      subst h8
      subst h9
      refine lv_if_ne (tgt := 70) cx.x cx.b dX2_doLay_44 (by decide) (fun hb44 => ?_) (fun hb44 => absurd hpp (b01_eq0.mp hb44))
      refine lv_aload_n cx.x cx.b dX2_doLay_70 rfl (lv_at hl 1 rfl) ?_
      refine lv_iload_n cx.x cx.b dX2_doLay_71 rfl (lv_at hl 2 rfl) ?_
      refine lv_aload_n cx.x cx.b dX2_doLay_72 rfl (lv_at hl 0 rfl) ?_
      refine gt_f (v := .int (nI i)) cx hw (13 + i) (kw_d (sBeg 2 0 σ) hn) (cls_d hd) (inD_all _ hd) 1 (by decide) tw_131 ⟨rfl, rfl, Or.inl rfl⟩ rfl dX2_doLay_73 ?_
      refine cgo_v cx hw (rV_v (q0 := (5 + k)) (n := 2) (As := [.int (nI j), .int (nI i)]) (rest := []) cx hw (c_X7_put l D G Q (sBeg 2 0 σ) k hk j hj hz (nI i)) (gd_V tw_668 tw_669 tw_670 tw_3 tw_671) rfl ⟨by decide +kernel, rfl, hl.1, (Nat.le_of_ble_eq_true rfl), ⟨(Nat.le_of_ble_eq_true rfl), (Nat.le_of_ble_eq_true rfl)⟩, ⟨(Nat.le_of_ble_eq_true rfl), (Nat.le_of_ble_eq_true rfl)⟩, rfl, rfl⟩ rfl (kw_s (sBeg 2 0 σ) hk) rfl dX2_doLay_76) (fun u H locs hp hw => ?_)
      have hp := hp.symm
      subst hp
      exact xret_v (sR k j (nI i) (sBeg 2 0 σ)) cx hw ⟨hz0, hpp, by unfold pL0; rw [row_clamp hj]⟩ dX2_doLay_79 (Nat.le_of_ble_eq_true rfl) (Nat.le_of_ble_eq_true rfl)
    · refine lv_aload_n cx.x cx.b dX2_doLay_0 rfl (lv_at hl 0 rfl) ?_
      refine gt_f (v := .ref (G 1)) cx hw (13 + i) (kw_d σ hn) (cls_d hd) (inD_all _ hd) 0 (by decide) tw_118 ⟨rfl, rfl, Or.inl rfl⟩ rfl dX2_doLay_1 ?_
      refine lv_iconst (v := 2) cx.x cx.b dX2_doLay_4 (by decide) ?_
      refine lv_iconst (v := 0) cx.x cx.b dX2_doLay_5 (by decide) ?_
      refine cgo_v cx hw (rV_v (q0 := 1) (n := 2) (As := [.int 2, .int 0]) (rest := []) cx hw (c_X0_begin l D G Q σ 2 0) (gd_V tw_330 tw_306 tw_307 tw_2 tw_308) rfl ⟨by decide +kernel, rfl, hl.1, (Nat.le_of_ble_eq_true rfl), ⟨(Nat.le_of_ble_eq_true rfl), (Nat.le_of_ble_eq_true rfl)⟩, ⟨(Nat.le_of_ble_eq_true rfl), (Nat.le_of_ble_eq_true rfl)⟩, rfl, rfl⟩ rfl (kw_b σ) rfl dX2_doLay_6) (fun u H locs hp hw => ?_)
      have hp := hp.symm
      subst hp
      refine lv_aload_n cx.x cx.b dX2_doLay_9 rfl (lv_at hl 1 rfl) ?_
      refine cgo_i cx hw (rV_i (q0 := (5 + k)) (n := 0) (As := []) (rest := []) cx hw (c_X7_isOut l D G Q (sBeg 2 0 σ) k hk) (gd_V tw_657 tw_283 tw_284 tw_3 tw_285) rfl ⟨by decide +kernel, rfl, hl.1, (Nat.le_of_ble_eq_true rfl), ⟨(Nat.le_of_ble_eq_true rfl), (Nat.le_of_ble_eq_true rfl)⟩, ⟨(Nat.le_of_ble_eq_true rfl), (Nat.le_of_ble_eq_true rfl)⟩, rfl, rfl⟩ rfl (kw_s (sBeg 2 0 σ) hk) rfl dX2_doLay_10) (fun r u H locs hp hw => ?_)
      obtain ⟨h8, h9⟩ := hp
      have h8 := h8.symm
      have h9 := h9.symm
      subst h8
      subst h9
      refine lv_if_eq (tgt := 39) cx.x cx.b dX2_doLay_13 (by decide) (fun hb13 => ?_) (fun hb13 => absurd (b01_eq0.mpr hz0) hb13)
      refine lv_aload_n cx.x cx.b dX2_doLay_39 rfl (lv_at hl 1 rfl) ?_
      refine lv_iload_n cx.x cx.b dX2_doLay_40 rfl (lv_at hl 2 rfl) ?_
      refine cgo_i cx hw (rV_i (q0 := (5 + k)) (n := 1) (As := [.int pl]) (rest := []) cx hw (c_X7_has l D G Q (sBeg 2 0 σ) k hk pl) (gd_V tw_664 tw_391 tw_392 tw_3 tw_393) rfl ⟨by decide +kernel, rfl, hl.1, (Nat.le_of_ble_eq_true rfl), ⟨(Nat.le_of_ble_eq_true rfl), (Nat.le_of_ble_eq_true rfl)⟩, ⟨(Nat.le_of_ble_eq_true rfl), (Nat.le_of_ble_eq_true rfl)⟩, rfl, rfl⟩ rfl (kw_s (sBeg 2 0 σ) hk) rfl dX2_doLay_41) (fun r u H locs hp hw => ?_)
      obtain ⟨h8, h9⟩ := hp
      have h8 := h8.symm
      have h9 := h9.symm
      subst h8
      subst h9
      refine lv_if_ne (tgt := 70) cx.x cx.b dX2_doLay_44 (by decide) (fun hb44 => absurd (b01_eq0.mpr hpp) hb44) (fun hb44 => ?_)
      refine lv_aload_n cx.x cx.b dX2_doLay_47 rfl (lv_at hl 0 rfl) ?_
      refine gt_f (v := .ref (G 1)) cx hw (13 + i) (kw_d (sBeg 2 0 σ) hn) (cls_d hd) (inD_all _ hd) 0 (by decide) tw_118 ⟨rfl, rfl, Or.inl rfl⟩ rfl dX2_doLay_48 ?_
      refine lv_dup cx.x cx.b dX2_doLay_51 rfl ?_
      refine gt_f (v := .int (s_c σ 5)) cx hw 1 (kw_b (sBeg 2 0 σ)) rfl inX0 5 (by decide) tw_47 ⟨rfl, rfl, Or.inl rfl⟩ rfl dX2_doLay_52 ?_
      refine lv_iconst (v := 1) cx.x cx.b dX2_doLay_55 (by decide) ?_
      refine lv_iadd cx.x cx.b dX2_doLay_56 ?_
      refine pt_f cx hw 1 (kw_b (sBeg 2 0 σ)) rfl inX0 tyX0 tyX0_ok nmX0 5 (by decide) tw_47 ⟨rfl, rfl, Or.inl rfl⟩ rfl rfl rfl rfl (Nat.le_of_ble_eq_true rfl) dX2_doLay_57 (w1 := kw G Q (sC 5 ((s_c σ 5) + 1) (sBeg 2 0 σ))) (kw_sC (by decide)) (fun H locs hw => ?_)
      exact thr_v (sC 5 ((s_c σ 5) + 1) (sBeg 2 0 σ)) hl0 htab cx hw (ok_IOB cx) hl.1 dX2_doLay_60 dX2_doLay_63 dX2_doLay_64 dX2_doLay_66 dX2_doLay_69 ⟨(Nat.le_of_ble_eq_true rfl), (Nat.le_of_ble_eq_true rfl), (Nat.le_of_ble_eq_true rfl), (Nat.le_of_ble_eq_true rfl)⟩ ⟨Or.inr ⟨hz0, hpp, rfl⟩, rfl⟩ (Nat.le_of_ble_eq_true rfl) (Nat.le_of_ble_eq_true rfl)
set_option maxHeartbeats 4000000 in
set_option maxRecDepth 100000 in
theorem c_X3_doLay (l : Launch) (hl0 : l.stackTraces = false) (D : va_G) (G : Nat → Nat) (Q : Nat → ClassId) (σ : St) (i : Nat) (hn : i < s_n σ) (hd : s_k σ i < 8) (k : Nat) (hk : k < 4) (pl : Int32) : XV l yX3_doLay cX3_doLay 3 ({ frames := 12, cells := 1, slots := 8, locals := 222 }) D cls (tyl Q) [.ref (s_a σ i), .ref (G (5 + k)), .int pl] (kw G Q) (kw G Q σ) (fun u => ¬ s_z σ k = -1 ∧ hasP (s_z σ k) (pl / 2) ∧ u = pL0 i k (pl / 2) (sBeg 2 6 σ)) (fun E u => layE (s_z σ k) (pl / 2) E ∧ u = pLf (sBeg 2 6 σ)) 1 8 := by
  refine XV_of (by decide) (Nat.le_of_ble_eq_true rfl) ?_
  intro p e s m args below meth c A ls htab cx hw hl
  have hl : lv_has ls 3 [(0, .ref (s_a σ i)), (1, .ref (G (5 + k))), (2, .int pl)] := hl
  refine lv_aload_n cx.x cx.b dX3_doLay_0 rfl (lv_at hl 0 rfl) ?_
  refine gt_f (v := .ref (G 1)) cx hw (13 + i) (kw_d σ hn) (cls_d hd) (inD_all _ hd) 0 (by decide) tw_129 ⟨rfl, rfl, Or.inr tw_130⟩ rfl dX3_doLay_1 ?_
  refine lv_iconst (v := 2) cx.x cx.b dX3_doLay_4 (by decide) ?_
  refine lv_bipush (v := 6) cx.x cx.b dX3_doLay_5 (by decide) ?_
  refine cgo_v cx hw (rV_v (q0 := 1) (n := 2) (As := [.int 2, .int 6]) (rest := []) cx hw (c_X0_begin l D G Q σ 2 6) (gd_V tw_315 tw_306 tw_307 tw_2 tw_308) rfl ⟨by decide +kernel, rfl, hl.1, (Nat.le_of_ble_eq_true rfl), ⟨(Nat.le_of_ble_eq_true rfl), (Nat.le_of_ble_eq_true rfl)⟩, ⟨(Nat.le_of_ble_eq_true rfl), (Nat.le_of_ble_eq_true rfl)⟩, rfl, rfl⟩ rfl (kw_b σ) rfl dX3_doLay_7) (fun u H locs hp hw => ?_)
  have hp := hp.symm
  subst hp
  refine lv_aload_n cx.x cx.b dX3_doLay_10 rfl (lv_at hl 0 rfl) ?_
  refine lv_aload_n cx.x cx.b dX3_doLay_11 rfl (lv_at hl 1 rfl) ?_
  refine lv_iload_n cx.x cx.b dX3_doLay_12 rfl (lv_at hl 2 rfl) ?_
  refine lv_iconst (v := 2) cx.x cx.b dX3_doLay_13 (by decide) ?_
  refine lv_idiv cx.x cx.b dX3_doLay_14 (by decide) ?_
  refine cgo_xv cx hw (rSU_xv (x := ⟨"BakeHouse$Dough", "doLay", "(LBakeHouse$Shelf;I)V"⟩) (n := 2) (As := [.ref (G (5 + k)), .int (pl / 2)]) (rest := []) cx hw (c_X2_doLay l hl0 D G Q (sBeg 2 6 σ) i hn hd k hk (pl / 2)) ⟨rfl, tw_642, tw_632, tw_247, tw_630, tw_5, tw_656, by decide, sb_up_rf⟩ ⟨by decide +kernel, rfl, hl.1, (Nat.le_of_ble_eq_true rfl), ⟨(Nat.le_of_ble_eq_true rfl), (Nat.le_of_ble_eq_true rfl)⟩, ⟨(Nat.le_of_ble_eq_true rfl), (Nat.le_of_ble_eq_true rfl)⟩, rfl, rfl⟩ rfl (kw_d (sBeg 2 6 σ) hn) (cls_d hd) dX3_doLay_15) (fun E ce q u H locs hp hw h1 h2 h3 => ?_) (fun u H locs hp hw => ?_)
  · obtain ⟨hx1, rfl⟩ := hp
    exact xout_v _ htab cx hw ⟨hx1, rfl⟩ (Nat.le_of_ble_eq_true rfl) (Nat.le_of_ble_eq_true rfl) h1 h2 h3
  obtain ⟨g1, g2, h9⟩ := hp
  have h9 := h9.symm
  subst h9
  exact xret_v (pL0 i k (pl / 2) (sBeg 2 6 σ)) cx hw ⟨g1, g2, rfl⟩ dX3_doLay_18 (Nat.le_of_ble_eq_true rfl) (Nat.le_of_ble_eq_true rfl)
theorem cwu_foldL {k : Nat} (h : k = 7) : CwU "BakeHouse$Levain" (kR k) "BakeHouse$Sour" 29 ⟨"BakeHouse$Levain", "doFold", "()V"⟩ yX8_doFold cX8_doFold 1 none := by
  subst h
  exact ⟨tw_647, tw_648, tw_318, tw_650, tw_318, tw_9, tw_319, ⟨_, _, _, tw_319⟩, by decide, rfl⟩
set_option maxHeartbeats 4000000 in
set_option maxRecDepth 100000 in
theorem c_X5_doLay (l : Launch) (hl0 : l.stackTraces = false) (D : va_G) (G : Nat → Nat) (Q : Nat → ClassId) (σ : St) (i : Nat) (hn : i < s_n σ) (hd : s_k σ i < 8) (k : Nat) (hk : k < 4) (h7 : s_k σ i = 7) (ac : Nat) (hac : s_F σ 6 i = nI ac) (hab : ac < 2 ^ 30) (pl : Int32) : XV l yX5_doLay cX5_doLay 3 ({ frames := 12, cells := 1, slots := 8, locals := 222 }) D cls (tyl Q) [.ref (s_a σ i), .ref (G (5 + k)), .int pl] (kw G Q) (kw G Q σ) (fun u => ¬ s_z σ k = -1 ∧ hasP (s_z σ k) pl ∧ u = pL0 i k pl (pF4 i (sBeg 2 7 σ))) (fun E u => layE (s_z σ k) pl E ∧ u = pLf (pF4 i (sBeg 2 7 σ))) 1 8 := by
  refine XV_of (by decide) (Nat.le_of_ble_eq_true rfl) ?_
  intro p e s m args below meth c A ls htab cx hw hl
  have hl : lv_has ls 3 [(0, .ref (s_a σ i)), (1, .ref (G (5 + k))), (2, .int pl)] := hl
  refine lv_aload_n cx.x cx.b dX5_doLay_0 rfl (lv_at hl 0 rfl) ?_
  refine gt_f (v := .ref (G 1)) cx hw (13 + i) (kw_d σ hn) (cls_d hd) (inD_all _ hd) 0 (by decide) tw_121 ⟨rfl, rfl, Or.inr tw_122⟩ rfl dX5_doLay_1 ?_
  refine lv_iconst (v := 2) cx.x cx.b dX5_doLay_4 (by decide) ?_
  refine lv_bipush (v := 7) cx.x cx.b dX5_doLay_5 (by decide) ?_
  refine cgo_v cx hw (rV_v (q0 := 1) (n := 2) (As := [.int 2, .int 7]) (rest := []) cx hw (c_X0_begin l D G Q σ 2 7) (gd_V tw_498 tw_306 tw_307 tw_2 tw_308) rfl ⟨by decide +kernel, rfl, hl.1, (Nat.le_of_ble_eq_true rfl), ⟨(Nat.le_of_ble_eq_true rfl), (Nat.le_of_ble_eq_true rfl)⟩, ⟨(Nat.le_of_ble_eq_true rfl), (Nat.le_of_ble_eq_true rfl)⟩, rfl, rfl⟩ rfl (kw_b σ) rfl dX5_doLay_7) (fun u H locs hp hw => ?_)
  have hp := hp.symm
  subst hp
  refine lv_aload_n cx.x cx.b dX5_doLay_10 rfl (lv_at hl 0 rfl) ?_
  refine cgo_v cx hw (rU_v (x := ⟨"BakeHouse$Levain", "doFold", "()V"⟩) (n := 0) (As := []) (rest := []) cx hw (c_X8_doFold l D G Q (sBeg 2 7 σ) i hn hd ac hac hab) (cwu_foldL h7) ⟨by decide +kernel, rfl, hl.1, (Nat.le_of_ble_eq_true rfl), ⟨(Nat.le_of_ble_eq_true rfl), (Nat.le_of_ble_eq_true rfl)⟩, ⟨(Nat.le_of_ble_eq_true rfl), (Nat.le_of_ble_eq_true rfl)⟩, rfl, rfl⟩ rfl (kw_d (sBeg 2 7 σ) hn) (cls_d hd) dX5_doLay_11) (fun u H locs hp hw => ?_)
  have hp := hp.symm
  subst hp
  refine lv_aload_n cx.x cx.b dX5_doLay_14 rfl (lv_at hl 0 rfl) ?_
  refine lv_aload_n cx.x cx.b dX5_doLay_15 rfl (lv_at hl 1 rfl) ?_
  refine lv_iload_n cx.x cx.b dX5_doLay_16 rfl (lv_at hl 2 rfl) ?_
  refine cgo_xv cx hw (rSU_xv (x := ⟨"BakeHouse$Sour", "doLay", "(LBakeHouse$Shelf;I)V"⟩) (n := 2) (As := [.ref (G (5 + k)), .int pl]) (rest := []) cx hw (c_X2_doLay l hl0 D G Q (pF4 i (sBeg 2 7 σ)) i hn hd k hk pl) ⟨rfl, tw_651, tw_652, tw_262, tw_630, tw_5, tw_656, by decide, (sb_up_of (cx.ts _ tw_217) (cx.ts _ tw_273) (va_Nw.use rfl (cx.ev.2.2.2.2.1 _ (by decide +kernel))))⟩ ⟨by decide +kernel, rfl, hl.1, (Nat.le_of_ble_eq_true rfl), ⟨(Nat.le_of_ble_eq_true rfl), (Nat.le_of_ble_eq_true rfl)⟩, ⟨(Nat.le_of_ble_eq_true rfl), (Nat.le_of_ble_eq_true rfl)⟩, rfl, rfl⟩ rfl (kw_d (pF4 i (sBeg 2 7 σ)) hn) (cls_d hd) dX5_doLay_17) (fun E ce q u H locs hp hw h1 h2 h3 => ?_) (fun u H locs hp hw => ?_)
  · obtain ⟨hx1, rfl⟩ := hp
    exact xout_v _ htab cx hw ⟨hx1, rfl⟩ (Nat.le_of_ble_eq_true rfl) (Nat.le_of_ble_eq_true rfl) h1 h2 h3
  obtain ⟨g1, g2, h9⟩ := hp
  have h9 := h9.symm
  subst h9
  exact xret_v (pL0 i k pl (pF4 i (sBeg 2 7 σ))) cx hw ⟨g1, g2, rfl⟩ dX5_doLay_20 (Nat.le_of_ble_eq_true rfl) (Nat.le_of_ble_eq_true rfl)
set_option maxHeartbeats 4000000 in
set_option maxRecDepth 100000 in
theorem c_X1_doLay (l : Launch) (hl0 : l.stackTraces = false) (D : va_G) (G : Nat → Nat) (Q : Nat → ClassId) (σ : St) (i : Nat) (hn : i < s_n σ) (hd : s_k σ i < 8) (k : Nat) (hk : k < 4) (pl : Int32) : XV l yX1_doLay cX1_doLay 3 ({ frames := 12, cells := 2, slots := 16, locals := 222 }) D cls (tyl Q) [.ref (s_a σ i), .ref (G (5 + k)), .int pl] (kw G Q) (kw G Q σ) (fun u => ¬ s_z σ k = -1 ∧ hasP (s_z σ k) pl ∧ hasP (s_z σ k) (pl + 1) ∧ u = pL0 i k (pl + 1) (pL0 i k pl (sBeg 2 5 σ))) (fun E u => (layE (s_z σ k) pl E ∧ u = pLf (sBeg 2 5 σ)) ∨ (¬ s_z σ k = -1 ∧ hasP (s_z σ k) pl ∧ layE (s_z σ k) (pl + 1) E ∧ u = pLf (pL0 i k pl (sBeg 2 5 σ)))) 2 16 := by
  refine XV_of (by decide) (Nat.le_of_ble_eq_true rfl) ?_
  intro p e s m args below meth c A ls htab cx hw hl
  have hl : lv_has ls 3 [(0, .ref (s_a σ i)), (1, .ref (G (5 + k))), (2, .int pl)] := hl
  refine lv_aload_n cx.x cx.b dX1_doLay_0 rfl (lv_at hl 0 rfl) ?_
  refine gt_f (v := .ref (G 1)) cx hw (13 + i) (kw_d σ hn) (cls_d hd) (inD_all _ hd) 0 (by decide) tw_119 ⟨rfl, rfl, Or.inr tw_120⟩ rfl dX1_doLay_1 ?_
  refine lv_iconst (v := 2) cx.x cx.b dX1_doLay_4 (by decide) ?_
  refine lv_iconst (v := 5) cx.x cx.b dX1_doLay_5 (by decide) ?_
  refine cgo_v cx hw (rV_v (q0 := 1) (n := 2) (As := [.int 2, .int 5]) (rest := []) cx hw (c_X0_begin l D G Q σ 2 5) (gd_V tw_409 tw_306 tw_307 tw_2 tw_308) rfl ⟨by decide +kernel, rfl, hl.1, (Nat.le_of_ble_eq_true rfl), ⟨(Nat.le_of_ble_eq_true rfl), (Nat.le_of_ble_eq_true rfl)⟩, ⟨(Nat.le_of_ble_eq_true rfl), (Nat.le_of_ble_eq_true rfl)⟩, rfl, rfl⟩ rfl (kw_b σ) rfl dX1_doLay_6) (fun u H locs hp hw => ?_)
  have hp := hp.symm
  subst hp
  refine lv_aload_n cx.x cx.b dX1_doLay_9 rfl (lv_at hl 0 rfl) ?_
  refine lv_aload_n cx.x cx.b dX1_doLay_10 rfl (lv_at hl 1 rfl) ?_
  refine lv_iload_n cx.x cx.b dX1_doLay_11 rfl (lv_at hl 2 rfl) ?_
  refine cgo_xv cx hw (rSU_xv (x := ⟨"BakeHouse$Sweet", "doLay", "(LBakeHouse$Shelf;I)V"⟩) (n := 2) (As := [.ref (G (5 + k)), .int pl]) (rest := []) cx hw (c_X2_doLay l hl0 D G Q (sBeg 2 5 σ) i hn hd k hk pl) ⟨rfl, tw_636, tw_637, tw_232, tw_630, tw_5, tw_656, by decide, (sb_up_of (cx.ts _ tw_202) (cx.ts _ tw_273) (va_Nw.use rfl (cx.ev.2.2.2.2.1 _ (by decide +kernel))))⟩ ⟨by decide +kernel, rfl, hl.1, (Nat.le_of_ble_eq_true rfl), ⟨(Nat.le_of_ble_eq_true rfl), (Nat.le_of_ble_eq_true rfl)⟩, ⟨(Nat.le_of_ble_eq_true rfl), (Nat.le_of_ble_eq_true rfl)⟩, rfl, rfl⟩ rfl (kw_d (sBeg 2 5 σ) hn) (cls_d hd) dX1_doLay_12) (fun E ce q u H locs hp hw h1 h2 h3 => ?_) (fun u H locs hp hw => ?_)
  · obtain ⟨hx1, rfl⟩ := hp
    exact xout_v _ htab cx hw (Or.inl ⟨hx1, rfl⟩) (Nat.le_of_ble_eq_true rfl) (Nat.le_of_ble_eq_true rfl) h1 h2 h3
  obtain ⟨g1, g2, h9⟩ := hp
  have h9 := h9.symm
  subst h9
  refine lv_aload_n cx.x cx.b dX1_doLay_15 rfl (lv_at hl 0 rfl) ?_
  refine lv_aload_n cx.x cx.b dX1_doLay_16 rfl (lv_at hl 1 rfl) ?_
  refine lv_iload_n cx.x cx.b dX1_doLay_17 rfl (lv_at hl 2 rfl) ?_
  refine lv_iconst (v := 1) cx.x cx.b dX1_doLay_18 (by decide) ?_
  refine lv_iadd cx.x cx.b dX1_doLay_19 ?_
  refine cgo_xv cx hw (rSU_xv (x := ⟨"BakeHouse$Sweet", "doLay", "(LBakeHouse$Shelf;I)V"⟩) (n := 2) (As := [.ref (G (5 + k)), .int (pl + 1)]) (rest := []) cx hw (c_X2_doLay l hl0 D G Q (pL0 i k pl (sBeg 2 5 σ)) i hn hd k hk (pl + 1)) ⟨rfl, tw_636, tw_637, tw_232, tw_630, tw_5, tw_656, by decide, (sb_up_of (cx.ts _ tw_202) (cx.ts _ tw_273) (va_Nw.use rfl (cx.ev.2.2.2.2.1 _ (by decide +kernel))))⟩ ⟨by decide +kernel, rfl, hl.1, (Nat.le_of_ble_eq_true rfl), ⟨(Nat.le_of_ble_eq_true rfl), (Nat.le_of_ble_eq_true rfl)⟩, ⟨(Nat.le_of_ble_eq_true rfl), (Nat.le_of_ble_eq_true rfl)⟩, rfl, rfl⟩ rfl (kw_d (pL0 i k pl (sBeg 2 5 σ)) hn) (cls_d hd) dX1_doLay_20) (fun E ce q u H locs hp hw h1 h2 h3 => ?_) (fun u H locs hp hw => ?_)
  · obtain ⟨hx1, rfl⟩ := hp
    exact xout_v _ htab cx hw (Or.inr ⟨g1, g2, hx1, rfl⟩) (Nat.le_of_ble_eq_true rfl) (Nat.le_of_ble_eq_true rfl) h1 h2 h3
  obtain ⟨g3, g4, h9⟩ := hp
  have h9 := h9.symm
  subst h9
  exact xret_v (pL0 i k (pl + 1) (pL0 i k pl (sBeg 2 5 σ))) cx hw ⟨g1, g2, g4, rfl⟩ dX1_doLay_23 (Nat.le_of_ble_eq_true rfl) (Nat.le_of_ble_eq_true rfl)
