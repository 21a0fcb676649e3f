set_option maxHeartbeats 4000000 in
set_option maxRecDepth 100000 in
theorem c_X10_rest (l : Launch) (hl0 : l.stackTraces = false) (D : va_G) (G : Nat → Nat) (Q : Nat → ClassId) (σ : St) {b : Nat} (hI : Inv b σ) (lo mi : Int32) : XI l yX10_rest cX10_rest 4 .int ({ frames := 16, cells := 1, slots := 6, locals := 600 }) D cls (tyl Q) [.ref (G 0), .int lo, .int mi] (kw G Q) (kw G Q σ) (okA (aRest σ lo mi)) (exA eISE (aRest σ lo mi)) 1 6 := by
  refine XI_of (by decide) (Nat.le_of_ble_eq_true rfl) ?_
  intro p e s m args below meth c A ls htab cx hw hl
  have hl : lv_has ls 4 [(0, .ref (G 0)), (1, .int lo), (2, .int mi)] := hl
  have hN9 := hI.n
  by_cases hv : okL σ lo
  · obtain ⟨i, hn, rfl⟩ := okL_i hN9 hv
    have hd := hI.k hn
    by_cases hm : w600 mi
    · refine lv_aload_n cx.x cx.b dX10_rest_0 rfl (lv_at hl 0 rfl) ?_
      refine lv_iload_n cx.x cx.b dX10_rest_1 rfl (lv_at hl 1 rfl) ?_
      refine cgo_r cx hw (rV_r (q0 := 0) (n := 1) (As := [.int (nI i)]) (rest := []) cx hw (c_findLoaf_s l D G Q σ hN9 i hn) (gd_V tw_294 tw_296 ts_2 tw_1 tw_297) rfl ⟨by decide +kernel, rfl, hl.1, (Nat.le_of_ble_eq_true rfl), ⟨(Nat.le_of_ble_eq_true rfl), (Nat.le_of_ble_eq_true rfl)⟩, ⟨(Nat.le_of_ble_eq_true rfl), (Nat.le_of_ble_eq_true rfl)⟩, rfl, rfl⟩ rfl (kw_h σ) rfl dX10_rest_2) (fun r u H locs hp hw => ?_)
      obtain ⟨h8, h9⟩ := hp
      have h8 := h8.symm
      have h9 := h9.symm
      subst h8
      subst h9
      refine W.eq (g2 := F0 m 5 ls [.ref (s_a σ i)]) rfl ?_
      refine lv_astore_n (lv' := [(3, .ref (s_a σ i)), (0, .ref (G 0)), (1, .int (nI i)), (2, .int mi)]) cx.x cx.b dX10_rest_5 rfl hl (by decide) rfl (fun ls hl => ?_)
      refine lv_aload_n cx.x cx.b dX10_rest_6 rfl (lv_at hl 0 rfl) ?_
      refine lv_ifnonnull (tgt := 13) cx.x cx.b dX10_rest_7 (by decide) ?_
      refine lv_iload_n cx.x cx.b dX10_rest_13 rfl (lv_at hl 3 rfl) ?_
      refine lv_iconst (v := 0) cx.x cx.b dX10_rest_14 (by decide) ?_
      refine lv_sipush (v := 600) cx.x cx.b dX10_rest_15 (by decide) ?_
      refine cgo_i cx hw (rS_i (n := 3) (As := [.int mi, .int 0, .int 600]) (rest := []) cx hw (c_X10_within l D G Q σ mi 0 600) (gd_S tw_102 tw_103 tw_1 tw_104) ⟨by decide +kernel, rfl, hl.1, (Nat.le_of_ble_eq_true rfl), ⟨(Nat.le_of_ble_eq_true rfl), (Nat.le_of_ble_eq_true rfl)⟩, ⟨(Nat.le_of_ble_eq_true rfl), (Nat.le_of_ble_eq_true rfl)⟩, rfl, rfl⟩ rfl dX10_rest_18) (fun r u H locs hp hw => ?_)
      obtain ⟨h8, h9⟩ := hp
      have h8 := h8.symm
      have h9 := h9.symm
      subst h8
      subst h9
      refine lv_if_eq (tgt := 32) cx.x cx.b dX10_rest_21 (by decide) (fun hb21 => absurd hb21 (by rw [wth_eq0]; exact fun h => h hm)) (fun hb21 => ?_)
      refine lv_aload_n cx.x cx.b dX10_rest_24 rfl (lv_at hl 0 rfl) ?_
      refine lv_iload_n cx.x cx.b dX10_rest_25 rfl (lv_at hl 3 rfl) ?_
      refine cgo_xi cx hw (dp_rest hl0 cx hw hn hd mi ⟨(Nat.le_of_ble_eq_true rfl), (Nat.le_of_ble_eq_true rfl), (Nat.le_of_ble_eq_true rfl), (Nat.le_of_ble_eq_true rfl)⟩ hl.1 dX10_rest_26) (fun E ce q u H locs hp hw h1 h2 h3 => ?_) (fun r u H locs hp hw => ?_)
      · obtain ⟨g1, g2, g3⟩ := hp
        subst g3
        exact xout_i _ htab cx hw (exA_of (by unfold aRest; rw [if_pos hv, if_pos hm, cl20 hN9 hn, if_pos g1]) ⟨rfl, g2⟩) (Nat.le_of_ble_eq_true rfl) (Nat.le_of_ble_eq_true rfl) h1 h2 h3
      obtain ⟨g1, h8, h9⟩ := hp
      have h8 := h8.symm
      have h9 := h9.symm
      subst h8
      subst h9
      refine lv_goto (tgt := 34) cx.x cx.b dX10_rest_29 (by decide) ?_
      exact xret_i (rRest (s_k σ i) i mi σ) cx hw (okA_of (by unfold aRest; rw [if_pos hv, if_pos hm, cl20 hN9 hn, if_neg g1])) dX10_rest_34 (Nat.le_of_ble_eq_true rfl) (Nat.le_of_ble_eq_true rfl)
    · refine lv_aload_n cx.x cx.b dX10_rest_0 rfl (lv_at hl 0 rfl) ?_
      refine lv_iload_n cx.x cx.b dX10_rest_1 rfl (lv_at hl 1 rfl) ?_
      refine cgo_r cx hw (rV_r (q0 := 0) (n := 1) (As := [.int (nI i)]) (rest := []) cx hw (c_findLoaf_s l D G Q σ hN9 i hn) (gd_V tw_294 tw_296 ts_2 tw_1 tw_297) rfl ⟨by decide +kernel, rfl, hl.1, (Nat.le_of_ble_eq_true rfl), ⟨(Nat.le_of_ble_eq_true rfl), (Nat.le_of_ble_eq_true rfl)⟩, ⟨(Nat.le_of_ble_eq_true rfl), (Nat.le_of_ble_eq_true rfl)⟩, rfl, rfl⟩ rfl (kw_h σ) rfl dX10_rest_2) (fun r u H locs hp hw => ?_)
      obtain ⟨h8, h9⟩ := hp
      have h8 := h8.symm
      have h9 := h9.symm
      subst h8
      subst h9
      refine W.eq (g2 := F0 m 5 ls [.ref (s_a σ i)]) rfl ?_
      refine lv_astore_n (lv' := [(3, .ref (s_a σ i)), (0, .ref (G 0)), (1, .int (nI i)), (2, .int mi)]) cx.x cx.b dX10_rest_5 rfl hl (by decide) rfl (fun ls hl => ?_)
      refine lv_aload_n cx.x cx.b dX10_rest_6 rfl (lv_at hl 0 rfl) ?_
      refine lv_ifnonnull (tgt := 13) cx.x cx.b dX10_rest_7 (by decide) ?_
      refine lv_iload_n cx.x cx.b dX10_rest_13 rfl (lv_at hl 3 rfl) ?_
      refine lv_iconst (v := 0) cx.x cx.b dX10_rest_14 (by decide) ?_
      refine lv_sipush (v := 600) cx.x cx.b dX10_rest_15 (by decide) ?_
      refine cgo_i cx hw (rS_i (n := 3) (As := [.int mi, .int 0, .int 600]) (rest := []) cx hw (c_X10_within l D G Q σ mi 0 600) (gd_S tw_102 tw_103 tw_1 tw_104) ⟨by decide +kernel, rfl, hl.1, (Nat.le_of_ble_eq_true rfl), ⟨(Nat.le_of_ble_eq_true rfl), (Nat.le_of_ble_eq_true rfl)⟩, ⟨(Nat.le_of_ble_eq_true rfl), (Nat.le_of_ble_eq_true rfl)⟩, rfl, rfl⟩ rfl dX10_rest_18) (fun r u H locs hp hw => ?_)
      obtain ⟨h8, h9⟩ := hp
      have h8 := h8.symm
      have h9 := h9.symm
      subst h8
      subst h9
      refine lv_if_eq (tgt := 32) cx.x cx.b dX10_rest_21 (by decide) (fun hb21 => ?_) (fun hb21 => absurd (wth_eq0.mpr hm) hb21)
      refine lv_bipush (v := (-102)) cx.x cx.b dX10_rest_32 (by decide) ?_
      exact xret_i σ cx hw (okA_of (by unfold aRest; rw [if_pos hv, if_neg hm])) dX10_rest_34 (Nat.le_of_ble_eq_true rfl) (Nat.le_of_ble_eq_true rfl)
  · have hv9 := okL_n hN9 hv
    refine lv_aload_n cx.x cx.b dX10_rest_0 rfl (lv_at hl 0 rfl) ?_
    refine lv_iload_n cx.x cx.b dX10_rest_1 rfl (lv_at hl 1 rfl) ?_
    refine cgo_r cx hw (rV_r (q0 := 0) (n := 1) (As := [.int lo]) (rest := []) cx hw (c_findLoaf_n l D G Q σ hN9 lo hv9) (gd_V tw_294 tw_296 ts_2 tw_1 tw_297) rfl ⟨by decide +kernel, rfl, hl.1, (Nat.le_of_ble_eq_true rfl), ⟨(Nat.le_of_ble_eq_true rfl), (Nat.le_of_ble_eq_true rfl)⟩, ⟨(Nat.le_of_ble_eq_true rfl), (Nat.le_of_ble_eq_true rfl)⟩, rfl, rfl⟩ rfl (kw_h σ) rfl dX10_rest_2) (fun r u H locs hp hw => ?_)
    obtain ⟨h8, h9⟩ := hp
    have h8 := h8.symm
    have h9 := h9.symm
    subst h8
    subst h9
    refine W.eq (g2 := F0 m 5 ls [.null]) rfl ?_
    refine lv_astore_nN (lv' := [(3, .null), (0, .ref (G 0)), (1, .int lo), (2, .int mi)]) cx.x cx.b dX10_rest_5 rfl hl (by decide) rfl (fun ls hl => ?_)
    refine lv_aload_nN cx.x cx.b dX10_rest_6 rfl (lv_at hl 0 rfl) ?_
    refine lv_ifnonnullN cx.x cx.b dX10_rest_7 ?_
    refine lv_bipush (v := (-101)) cx.x cx.b dX10_rest_10 (by decide) ?_
    exact xret_i σ cx hw (okA_of (by unfold aRest; rw [if_neg hv])) dX10_rest_12 (Nat.le_of_ble_eq_true rfl) (Nat.le_of_ble_eq_true rfl)
set_option maxHeartbeats 4000000 in
set_option maxRecDepth 100000 in
theorem c_X10_fold (l : Launch) (D : va_G) (G : Nat → Nat) (Q : Nat → ClassId) (σ : St) {b : Nat} (hI : Inv b σ) (lo : Int32) : MI l yX10_fold cX10_fold 3 .int ({ frames := 16, cells := 0, slots := 0, locals := 600 }) D cls (tyl Q) [.ref (G 0), .int lo] (kw G Q) (kw G Q σ) (okA (aFold σ lo)) 0 0 := by
  refine MI_of (by decide) (Nat.le_of_ble_eq_true rfl) ?_
  intro p e s m args below meth c A ls cx hw hl
  have hl : lv_has ls 3 [(0, .ref (G 0)), (1, .int lo)] := hl
  have hN9 := hI.n
  by_cases hv : okL σ lo
  · obtain ⟨i, hn, rfl⟩ := okL_i hN9 hv
    have hd := hI.k hn
    obtain ⟨ac, hac, hab⟩ := hI.ac i
    refine lv_aload_n cx.x cx.b dX10_fold_0 rfl (lv_at hl 0 rfl) ?_
    refine lv_iload_n cx.x cx.b dX10_fold_1 rfl (lv_at hl 1 rfl) ?_
    refine cgo_r cx hw (rV_r (q0 := 0) (n := 1) (As := [.int (nI i)]) (rest := []) cx hw (c_findLoaf_s l D G Q σ hN9 i hn) (gd_V tw_294 tw_296 ts_2 tw_1 tw_297) rfl ⟨by decide +kernel, rfl, hl.1, (Nat.le_of_ble_eq_true rfl), ⟨(Nat.le_of_ble_eq_true rfl), (Nat.le_of_ble_eq_true rfl)⟩, ⟨(Nat.le_of_ble_eq_true rfl), (Nat.le_of_ble_eq_true rfl)⟩, rfl, rfl⟩ rfl (kw_h σ) rfl dX10_fold_2) (fun r u H locs hp hw => ?_)
    obtain ⟨h8, h9⟩ := hp
    have h8 := h8.symm
    have h9 := h9.symm
    subst h8
    subst h9
    refine W.eq (g2 := F0 m 5 ls [.ref (s_a σ i)]) rfl ?_
    refine lv_astore_n (lv' := [(2, .ref (s_a σ i)), (0, .ref (G 0)), (1, .int (nI i))]) cx.x cx.b dX10_fold_5 rfl hl (by decide) rfl (fun ls hl => ?_)
    refine lv_aload_n cx.x cx.b dX10_fold_6 rfl (lv_at hl 0 rfl) ?_
    refine lv_ifnonnull (tgt := 13) cx.x cx.b dX10_fold_7 (by decide) ?_
    refine lv_aload_n cx.x cx.b dX10_fold_13 rfl (lv_at hl 0 rfl) ?_
    refine cgo_v cx hw (dp_fold cx hw hn hd ac hac hab ⟨(Nat.le_of_ble_eq_true rfl), (Nat.le_of_ble_eq_true rfl), (Nat.le_of_ble_eq_true rfl), (Nat.le_of_ble_eq_true rfl)⟩ hl.1 dX10_fold_14) (fun u H locs hp hw => ?_)
    have h9 := hp.symm
    subst h9
    refine lv_aload_n cx.x cx.b dX10_fold_17 rfl (lv_at hl 0 rfl) ?_
    refine gt_f (v := .int (s_F (rFold (s_k σ i) i σ) 5 i)) cx hw (13 + i) (kw_dg (geoF _ _ _) hn) (cls_d hd) (inD_all _ hd) 5 (by decide) tw_143 ⟨rfl, rfl, Or.inl rfl⟩ rfl dX10_fold_18 ?_
    exact ret_i (rFold (s_k σ i) i σ) cx hw (okA_of (by unfold aFold; rw [if_pos hv, cl20 hN9 hn])) dX10_fold_21 (Nat.le_of_ble_eq_true rfl) (Nat.le_of_ble_eq_true rfl)
  · have hv9 := okL_n hN9 hv
    refine lv_aload_n cx.x cx.b dX10_fold_0 rfl (lv_at hl 0 rfl) ?_
    refine lv_iload_n cx.x cx.b dX10_fold_1 rfl (lv_at hl 1 rfl) ?_
    refine cgo_r cx hw (rV_r (q0 := 0) (n := 1) (As := [.int lo]) (rest := []) cx hw (c_findLoaf_n l D G Q σ hN9 lo hv9) (gd_V tw_294 tw_296 ts_2 tw_1 tw_297) rfl ⟨by decide +kernel, rfl, hl.1, (Nat.le_of_ble_eq_true rfl), ⟨(Nat.le_of_ble_eq_true rfl), (Nat.le_of_ble_eq_true rfl)⟩, ⟨(Nat.le_of_ble_eq_true rfl), (Nat.le_of_ble_eq_true rfl)⟩, rfl, rfl⟩ rfl (kw_h σ) rfl dX10_fold_2) (fun r u H locs hp hw => ?_)
    obtain ⟨h8, h9⟩ := hp
    have h8 := h8.symm
    have h9 := h9.symm
    subst h8
    subst h9
    refine W.eq (g2 := F0 m 5 ls [.null]) rfl ?_
    refine lv_astore_nN (lv' := [(2, .null), (0, .ref (G 0)), (1, .int lo)]) cx.x cx.b dX10_fold_5 rfl hl (by decide) rfl (fun ls hl => ?_)
    refine lv_aload_nN cx.x cx.b dX10_fold_6 rfl (lv_at hl 0 rfl) ?_
    refine lv_ifnonnullN cx.x cx.b dX10_fold_7 ?_
    refine lv_bipush (v := (-101)) cx.x cx.b dX10_fold_10 (by decide) ?_
    exact ret_i σ cx hw (okA_of (by unfold aFold; rw [if_neg hv])) dX10_fold_12 (Nat.le_of_ble_eq_true rfl) (Nat.le_of_ble_eq_true rfl)
set_option maxHeartbeats 4000000 in
set_option maxRecDepth 100000 in
theorem c_X10_bake (l : Launch) (D : va_G) (G : Nat → Nat) (Q : Nat → ClassId) (σ : St) {b : Nat} (hI : Inv b σ) (lo ht : Int32) : MI l yX10_bake cX10_bake 4 .int ({ frames := 16, cells := 0, slots := 0, locals := 600 }) D cls (tyl Q) [.ref (G 0), .int lo, .int ht] (kw G Q) (kw G Q σ) (okA (aBake σ lo ht)) 0 0 := by
  refine MI_of (by decide) (Nat.le_of_ble_eq_true rfl) ?_
  intro p e s m args below meth c A ls cx hw hl
  have hl : lv_has ls 4 [(0, .ref (G 0)), (1, .int lo), (2, .int ht)] := hl
  have hN9 := hI.n
  by_cases hv : okL σ lo
  · obtain ⟨i, hn, rfl⟩ := okL_i hN9 hv
    have hd := hI.k hn
    by_cases hm : w400 ht
    · refine lv_aload_n cx.x cx.b dX10_bake_0 rfl (lv_at hl 0 rfl) ?_
      refine lv_iload_n cx.x cx.b dX10_bake_1 rfl (lv_at hl 1 rfl) ?_
      refine cgo_r cx hw (rV_r (q0 := 0) (n := 1) (As := [.int (nI i)]) (rest := []) cx hw (c_findLoaf_s l D G Q σ hN9 i hn) (gd_V tw_294 tw_296 ts_2 tw_1 tw_297) rfl ⟨by decide +kernel, rfl, hl.1, (Nat.le_of_ble_eq_true rfl), ⟨(Nat.le_of_ble_eq_true rfl), (Nat.le_of_ble_eq_true rfl)⟩, ⟨(Nat.le_of_ble_eq_true rfl), (Nat.le_of_ble_eq_true rfl)⟩, rfl, rfl⟩ rfl (kw_h σ) rfl dX10_bake_2) (fun r u H locs hp hw => ?_)
      obtain ⟨h8, h9⟩ := hp
      have h8 := h8.symm
      have h9 := h9.symm
      subst h8
      subst h9
      refine W.eq (g2 := F0 m 5 ls [.ref (s_a σ i)]) rfl ?_
      refine lv_astore_n (lv' := [(3, .ref (s_a σ i)), (0, .ref (G 0)), (1, .int (nI i)), (2, .int ht)]) cx.x cx.b dX10_bake_5 rfl hl (by decide) rfl (fun ls hl => ?_)
      refine lv_aload_n cx.x cx.b dX10_bake_6 rfl (lv_at hl 0 rfl) ?_
      refine lv_ifnonnull (tgt := 13) cx.x cx.b dX10_bake_7 (by decide) ?_
      refine lv_iload_n cx.x cx.b dX10_bake_13 rfl (lv_at hl 3 rfl) ?_
      refine lv_iconst (v := 0) cx.x cx.b dX10_bake_14 (by decide) ?_
      refine lv_sipush (v := 400) cx.x cx.b dX10_bake_15 (by decide) ?_
      refine cgo_i cx hw (rS_i (n := 3) (As := [.int ht, .int 0, .int 400]) (rest := []) cx hw (c_X10_within l D G Q σ ht 0 400) (gd_S tw_102 tw_103 tw_1 tw_104) ⟨by decide +kernel, rfl, hl.1, (Nat.le_of_ble_eq_true rfl), ⟨(Nat.le_of_ble_eq_true rfl), (Nat.le_of_ble_eq_true rfl)⟩, ⟨(Nat.le_of_ble_eq_true rfl), (Nat.le_of_ble_eq_true rfl)⟩, rfl, rfl⟩ rfl dX10_bake_18) (fun r u H locs hp hw => ?_)
      obtain ⟨h8, h9⟩ := hp
      have h8 := h8.symm
      have h9 := h9.symm
      subst h8
      subst h9
      refine lv_if_ne (tgt := 27) cx.x cx.b dX10_bake_21 (by decide) (fun hb21 => ?_) (fun hb21 => absurd hb21 (by rw [wth_eq0]; exact fun h => h hm))
      refine lv_aload_n cx.x cx.b dX10_bake_27 rfl (lv_at hl 0 rfl) ?_
      refine lv_iload_n cx.x cx.b dX10_bake_28 rfl (lv_at hl 3 rfl) ?_
      refine cgo_i cx hw (dp_bake cx hw hn hd ht ⟨(Nat.le_of_ble_eq_true rfl), (Nat.le_of_ble_eq_true rfl), (Nat.le_of_ble_eq_true rfl), (Nat.le_of_ble_eq_true rfl)⟩ hl.1 dX10_bake_29) (fun r u H locs hp hw => ?_)
      obtain ⟨h8, h9⟩ := hp
      have h8 := h8.symm
      have h9 := h9.symm
      subst h8
      subst h9
      refine lv_if_eq (tgt := 39) cx.x cx.b dX10_bake_32 (by decide) (fun hb32 => ?_) (fun hb32 => ?_)
      · refine lv_iconst (v := 0) cx.x cx.b dX10_bake_39 (by decide) ?_
        exact ret_i (rBake (s_k σ i) i ht σ) cx hw (okA_of (by unfold aBake; rw [if_pos hv, if_pos hm, cl20 hN9 hn, hb32])) dX10_bake_40 (Nat.le_of_ble_eq_true rfl) (Nat.le_of_ble_eq_true rfl)
      · refine lv_iconst (v := 1) cx.x cx.b dX10_bake_35 (by decide) ?_
        refine lv_goto (tgt := 40) cx.x cx.b dX10_bake_36 (by decide) ?_
        exact ret_i (rBake (s_k σ i) i ht σ) cx hw (okA_of (by unfold aBake; rw [if_pos hv, if_pos hm, cl20 hN9 hn, vBake_or.resolve_left hb32])) dX10_bake_40 (Nat.le_of_ble_eq_true rfl) (Nat.le_of_ble_eq_true rfl)
    · refine lv_aload_n cx.x cx.b dX10_bake_0 rfl (lv_at hl 0 rfl) ?_
      refine lv_iload_n cx.x cx.b dX10_bake_1 rfl (lv_at hl 1 rfl) ?_
      refine cgo_r cx hw (rV_r (q0 := 0) (n := 1) (As := [.int (nI i)]) (rest := []) cx hw (c_findLoaf_s l D G Q σ hN9 i hn) (gd_V tw_294 tw_296 ts_2 tw_1 tw_297) rfl ⟨by decide +kernel, rfl, hl.1, (Nat.le_of_ble_eq_true rfl), ⟨(Nat.le_of_ble_eq_true rfl), (Nat.le_of_ble_eq_true rfl)⟩, ⟨(Nat.le_of_ble_eq_true rfl), (Nat.le_of_ble_eq_true rfl)⟩, rfl, rfl⟩ rfl (kw_h σ) rfl dX10_bake_2) (fun r u H locs hp hw => ?_)
      obtain ⟨h8, h9⟩ := hp
      have h8 := h8.symm
      have h9 := h9.symm
      subst h8
      subst h9
      refine W.eq (g2 := F0 m 5 ls [.ref (s_a σ i)]) rfl ?_
      refine lv_astore_n (lv' := [(3, .ref (s_a σ i)), (0, .ref (G 0)), (1, .int (nI i)), (2, .int ht)]) cx.x cx.b dX10_bake_5 rfl hl (by decide) rfl (fun ls hl => ?_)
      refine lv_aload_n cx.x cx.b dX10_bake_6 rfl (lv_at hl 0 rfl) ?_
      refine lv_ifnonnull (tgt := 13) cx.x cx.b dX10_bake_7 (by decide) ?_
      refine lv_iload_n cx.x cx.b dX10_bake_13 rfl (lv_at hl 3 rfl) ?_
      refine lv_iconst (v := 0) cx.x cx.b dX10_bake_14 (by decide) ?_
      refine lv_sipush (v := 400) cx.x cx.b dX10_bake_15 (by decide) ?_
      refine cgo_i cx hw (rS_i (n := 3) (As := [.int ht, .int 0, .int 400]) (rest := []) cx hw (c_X10_within l D G Q σ ht 0 400) (gd_S tw_102 tw_103 tw_1 tw_104) ⟨by decide +kernel, rfl, hl.1, (Nat.le_of_ble_eq_true rfl), ⟨(Nat.le_of_ble_eq_true rfl), (Nat.le_of_ble_eq_true rfl)⟩, ⟨(Nat.le_of_ble_eq_true rfl), (Nat.le_of_ble_eq_true rfl)⟩, rfl, rfl⟩ rfl dX10_bake_18) (fun r u H locs hp hw => ?_)
      obtain ⟨h8, h9⟩ := hp
      have h8 := h8.symm
      have h9 := h9.symm
      subst h8
      subst h9
      refine lv_if_ne (tgt := 27) cx.x cx.b dX10_bake_21 (by decide) (fun hb21 => absurd (wth_eq0.mpr hm) hb21) (fun hb21 => ?_)
      refine lv_bipush (v := (-102)) cx.x cx.b dX10_bake_24 (by decide) ?_
      exact ret_i σ cx hw (okA_of (by unfold aBake; rw [if_pos hv, if_neg hm])) dX10_bake_26 (Nat.le_of_ble_eq_true rfl) (Nat.le_of_ble_eq_true rfl)
  · have hv9 := okL_n hN9 hv
    refine lv_aload_n cx.x cx.b dX10_bake_0 rfl (lv_at hl 0 rfl) ?_
    refine lv_iload_n cx.x cx.b dX10_bake_1 rfl (lv_at hl 1 rfl) ?_
    refine cgo_r cx hw (rV_r (q0 := 0) (n := 1) (As := [.int lo]) (rest := []) cx hw (c_findLoaf_n l D G Q σ hN9 lo hv9) (gd_V tw_294 tw_296 ts_2 tw_1 tw_297) rfl ⟨by decide +kernel, rfl, hl.1, (Nat.le_of_ble_eq_true rfl), ⟨(Nat.le_of_ble_eq_true rfl), (Nat.le_of_ble_eq_true rfl)⟩, ⟨(Nat.le_of_ble_eq_true rfl), (Nat.le_of_ble_eq_true rfl)⟩, rfl, rfl⟩ rfl (kw_h σ) rfl dX10_bake_2) (fun r u H locs hp hw => ?_)
    obtain ⟨h8, h9⟩ := hp
    have h8 := h8.symm
    have h9 := h9.symm
    subst h8
    subst h9
    refine W.eq (g2 := F0 m 5 ls [.null]) rfl ?_
    refine lv_astore_nN (lv' := [(3, .null), (0, .ref (G 0)), (1, .int lo), (2, .int ht)]) cx.x cx.b dX10_bake_5 rfl hl (by decide) rfl (fun ls hl => ?_)
    refine lv_aload_nN cx.x cx.b dX10_bake_6 rfl (lv_at hl 0 rfl) ?_
    refine lv_ifnonnullN cx.x cx.b dX10_bake_7 ?_
    refine lv_bipush (v := (-101)) cx.x cx.b dX10_bake_10 (by decide) ?_
    exact ret_i σ cx hw (okA_of (by unfold aBake; rw [if_neg hv])) dX10_bake_12 (Nat.le_of_ble_eq_true rfl) (Nat.le_of_ble_eq_true rfl)
set_option maxHeartbeats 4000000 in
set_option maxRecDepth 100000 in
theorem c_X10_worth (l : Launch) (hl0 : l.stackTraces = false) (D : va_G) (G : Nat → Nat) (Q : Nat → ClassId) (σ : St) {b : Nat} (hI : Inv b σ) (lo : Int32) : XI l yX10_worth cX10_worth 3 .int ({ frames := 16, cells := 1, slots := 6, locals := 600 }) D cls (tyl Q) [.ref (G 0), .int lo] (kw G Q) (kw G Q σ) (okA (aWorth σ lo)) (exA eARI (aWorth σ lo)) 1 6 := by
  refine XI_of (by decide) (Nat.le_of_ble_eq_true rfl) ?_
  intro p e s m args below meth c A ls htab cx hw hl
  have hl : lv_has ls 3 [(0, .ref (G 0)), (1, .int lo)] := hl
  have hN9 := hI.n
  by_cases hv : okL σ lo
  · obtain ⟨i, hn, rfl⟩ := okL_i hN9 hv
    have hd := hI.k hn
    refine lv_aload_n cx.x cx.b dX10_worth_0 rfl (lv_at hl 0 rfl) ?_
    refine lv_iload_n cx.x cx.b dX10_worth_1 rfl (lv_at hl 1 rfl) ?_
    refine cgo_r cx hw (rV_r (q0 := 0) (n := 1) (As := [.int (nI i)]) (rest := []) cx hw (c_findLoaf_s l D G Q σ hN9 i hn) (gd_V tw_294 tw_296 ts_2 tw_1 tw_297) rfl ⟨by decide +kernel, rfl, hl.1, (Nat.le_of_ble_eq_true rfl), ⟨(Nat.le_of_ble_eq_true rfl), (Nat.le_of_ble_eq_true rfl)⟩, ⟨(Nat.le_of_ble_eq_true rfl), (Nat.le_of_ble_eq_true rfl)⟩, rfl, rfl⟩ rfl (kw_h σ) rfl dX10_worth_2) (fun r u H locs hp hw => ?_)
    obtain ⟨h8, h9⟩ := hp
    have h8 := h8.symm
    have h9 := h9.symm
    subst h8
    subst h9
    refine W.eq (g2 := F0 m 5 ls [.ref (s_a σ i)]) rfl ?_
    refine lv_astore_n (lv' := [(2, .ref (s_a σ i)), (0, .ref (G 0)), (1, .int (nI i))]) cx.x cx.b dX10_worth_5 rfl hl (by decide) rfl (fun ls hl => ?_)
    refine lv_aload_n cx.x cx.b dX10_worth_6 rfl (lv_at hl 0 rfl) ?_
    refine lv_ifnonnull (tgt := 15) cx.x cx.b dX10_worth_7 (by decide) ?_
    refine lv_aload_n cx.x cx.b dX10_worth_15 rfl (lv_at hl 0 rfl) ?_
    refine cgo_xi cx hw (dp_worth hl0 cx hw hn hd  ⟨(Nat.le_of_ble_eq_true rfl), (Nat.le_of_ble_eq_true rfl), (Nat.le_of_ble_eq_true rfl), (Nat.le_of_ble_eq_true rfl)⟩ hl.1 dX10_worth_16) (fun E ce q u H locs hp hw h1 h2 h3 => ?_) (fun r u H locs hp hw => ?_)
    · obtain ⟨g1, g2, g3⟩ := hp
      subst g3
      exact xout_i _ htab cx hw (exA_of (by unfold aWorth; rw [if_pos hv, cl20 hN9 hn, if_pos g1]) ⟨rfl, g2⟩) (Nat.le_of_ble_eq_true rfl) (Nat.le_of_ble_eq_true rfl) h1 h2 h3
    obtain ⟨g1, h8, h9⟩ := hp
    have h8 := h8.symm
    have h9 := h9.symm
    subst h8
    subst h9
    exact xret_i (rWorth (s_k σ i) i σ) cx hw (okA_of (by unfold aWorth; rw [if_pos hv, cl20 hN9 hn, if_neg g1])) dX10_worth_19 (Nat.le_of_ble_eq_true rfl) (Nat.le_of_ble_eq_true rfl)
  · have hv9 := okL_n hN9 hv
    refine lv_aload_n cx.x cx.b dX10_worth_0 rfl (lv_at hl 0 rfl) ?_
    refine lv_iload_n cx.x cx.b dX10_worth_1 rfl (lv_at hl 1 rfl) ?_
    refine cgo_r cx hw (rV_r (q0 := 0) (n := 1) (As := [.int lo]) (rest := []) cx hw (c_findLoaf_n l D G Q σ hN9 lo hv9) (gd_V tw_294 tw_296 ts_2 tw_1 tw_297) rfl ⟨by decide +kernel, rfl, hl.1, (Nat.le_of_ble_eq_true rfl), ⟨(Nat.le_of_ble_eq_true rfl), (Nat.le_of_ble_eq_true rfl)⟩, ⟨(Nat.le_of_ble_eq_true rfl), (Nat.le_of_ble_eq_true rfl)⟩, rfl, rfl⟩ rfl (kw_h σ) rfl dX10_worth_2) (fun r u H locs hp hw => ?_)
    obtain ⟨h8, h9⟩ := hp
    have h8 := h8.symm
    have h9 := h9.symm
    subst h8
    subst h9
    refine W.eq (g2 := F0 m 5 ls [.null]) rfl ?_
    refine lv_astore_nN (lv' := [(2, .null), (0, .ref (G 0)), (1, .int lo)]) cx.x cx.b dX10_worth_5 rfl hl (by decide) rfl (fun ls hl => ?_)
    refine lv_aload_nN cx.x cx.b dX10_worth_6 rfl (lv_at hl 0 rfl) ?_
    refine lv_ifnonnullN cx.x cx.b dX10_worth_7 ?_
    refine lv_bipush (v := (-101)) cx.x cx.b dX10_worth_10 (by decide) ?_
    refine lv_goto (tgt := 19) cx.x cx.b dX10_worth_12 (by decide) ?_
    exact xret_i σ cx hw (okA_of (by unfold aWorth; rw [if_neg hv])) dX10_worth_19 (Nat.le_of_ble_eq_true rfl) (Nat.le_of_ble_eq_true rfl)
set_option maxHeartbeats 4000000 in
set_option maxRecDepth 100000 in
theorem c_X10_priceOf (l : Launch) (hl0 : l.stackTraces = false) (D : va_G) (G : Nat → Nat) (Q : Nat → ClassId) (σ : St) (i : Nat) (hn : i < s_n σ) (hd : s_k σ i < 8) : XI l yX10_priceOf cX10_priceOf 2 .int ({ frames := 16, cells := 1, slots := 6, locals := 600 }) D cls (tyl Q) [.ref (s_a σ i)] (kw G Q) (kw G Q σ) (fun r u => ¬ fWorth (s_k σ i) i σ ∧ r = vCost (s_k σ i) i σ ∧ u = rWorth (s_k σ i) i σ) (fun E u => fWorth (s_k σ i) i σ ∧ E = "java/lang/ArithmeticException" ∧ u = rWorth (s_k σ i) i σ) 1 6 := by
  refine XI_of (by decide) (Nat.le_of_ble_eq_true rfl) ?_
  intro p e s m args below meth c A ls htab cx hw hl
  have hl : lv_has ls 2 [(0, .ref (s_a σ i))] := hl
  refine lv_aload_n cx.x cx.b dX10_priceOf_0 rfl (lv_at hl 0 rfl) ?_
  refine cgo_xi cx hw (dp_worth hl0 cx hw hn hd  ⟨(Nat.le_of_ble_eq_true rfl), (Nat.le_of_ble_eq_true rfl), (Nat.le_of_ble_eq_true rfl), (Nat.le_of_ble_eq_true rfl)⟩ hl.1 dX10_priceOf_1) (fun E ce q u H locs hp hw h1 h2 h3 => ?_) (fun r u H locs hp hw => ?_)
  · obtain ⟨g1, g2, g3⟩ := hp
    subst g3
    exact xout_i _ htab cx hw ⟨g1, g2, rfl⟩ (Nat.le_of_ble_eq_true rfl) (Nat.le_of_ble_eq_true rfl) h1 h2 h3
  obtain ⟨g1, h8, h9⟩ := hp
  have h8 := h8.symm
  have h9 := h9.symm
  subst h8
  subst h9
  refine lv_istore_n (lv' := [(1, .int (vWorth (s_k σ i) i σ)), (0, .ref (s_a σ i))]) cx.x cx.b dX10_priceOf_4 rfl hl (by decide) rfl (fun ls hl => ?_)
  refine lv_aload_n cx.x cx.b dX10_priceOf_5 rfl (lv_at hl 1 rfl) ?_
  refine gt_f (v := .int (nI (s_k σ i))) cx hw (13 + i) (kw_dg (geoW _ _ _) hn) (cls_d hd) (inD_all _ hd) 2 (by decide) tw_133 ⟨rfl, rfl, Or.inl rfl⟩ rfl dX10_priceOf_6 ?_
  refine lv_iconst (v := 5) cx.x cx.b dX10_priceOf_9 (by decide) ?_
  refine lv_icmp_ne (tgt := 20) cx.x cx.b dX10_priceOf_10 (by decide) (fun hb10 => ?_) (fun hb10 => ?_)
  · refine lv_iload_n cx.x cx.b dX10_priceOf_20 rfl (lv_at hl 0 rfl) ?_
    refine lv_iload_n cx.x cx.b dX10_priceOf_21 rfl (lv_at hl 0 rfl) ?_
    refine lv_bipush (v := 10) cx.x cx.b dX10_priceOf_22 (by decide) ?_
    refine lv_idiv cx.x cx.b dX10_priceOf_24 (by decide) ?_
    refine lv_iadd cx.x cx.b dX10_priceOf_25 ?_
    exact xret_i (rWorth (s_k σ i) i σ) cx hw ⟨g1, (if_neg (fun h => hb10 ((k5 hd).mpr h))).symm, rfl⟩ dX10_priceOf_26 (Nat.le_of_ble_eq_true rfl) (Nat.le_of_ble_eq_true rfl)
  · refine lv_iload_n cx.x cx.b dX10_priceOf_13 rfl (lv_at hl 0 rfl) ?_
    refine lv_bipush (v := 7) cx.x cx.b dX10_priceOf_14 (by decide) ?_
    refine lv_iadd cx.x cx.b dX10_priceOf_16 ?_
    refine lv_goto (tgt := 26) cx.x cx.b dX10_priceOf_17 (by decide) ?_
    exact xret_i (rWorth (s_k σ i) i σ) cx hw ⟨g1, (if_pos ((k5 hd).mp hb10)).symm, rfl⟩ dX10_priceOf_26 (Nat.le_of_ble_eq_true rfl) (Nat.le_of_ble_eq_true rfl)
set_option maxHeartbeats 4000000 in
set_option maxRecDepth 100000 in
theorem c_X10_cost (l : Launch) (hl0 : l.stackTraces = false) (D : va_G) (G : Nat → Nat) (Q : Nat → ClassId) (σ : St) {b : Nat} (hI : Inv b σ) (lo : Int32) : XI l yX10_cost cX10_cost 3 .int ({ frames := 17, cells := 1, slots := 6, locals := 621 }) D cls (tyl Q) [.ref (G 0), .int lo] (kw G Q) (kw G Q σ) (okA (aCost σ lo)) (exA eARI (aCost σ lo)) 1 6 := by
  refine XI_of (by decide) (Nat.le_of_ble_eq_true rfl) ?_
  intro p e s m args below meth c A ls htab cx hw hl
  have hl : lv_has ls 3 [(0, .ref (G 0)), (1, .int lo)] := hl
  have hN9 := hI.n
  by_cases hv : okL σ lo
  · obtain ⟨i, hn, rfl⟩ := okL_i hN9 hv
    have hd := hI.k hn
    by_cases hm : sold (s_k σ i)
    · refine lv_aload_n cx.x cx.b dX10_cost_0 rfl (lv_at hl 0 rfl) ?_
      refine lv_iload_n cx.x cx.b dX10_cost_1 rfl (lv_at hl 1 rfl) ?_
      refine cgo_r cx hw (rV_r (q0 := 0) (n := 1) (As := [.int (nI i)]) (rest := []) cx hw (c_findLoaf_s l D G Q σ hN9 i hn) (gd_V tw_294 tw_296 ts_2 tw_1 tw_297) rfl ⟨by decide +kernel, rfl, hl.1, (Nat.le_of_ble_eq_true rfl), ⟨(Nat.le_of_ble_eq_true rfl), (Nat.le_of_ble_eq_true rfl)⟩, ⟨(Nat.le_of_ble_eq_true rfl), (Nat.le_of_ble_eq_true rfl)⟩, rfl, rfl⟩ rfl (kw_h σ) rfl dX10_cost_2) (fun r u H locs hp hw => ?_)
      obtain ⟨h8, h9⟩ := hp
      have h8 := h8.symm
      have h9 := h9.symm
      subst h8
      subst h9
      refine W.eq (g2 := F0 m 5 ls [.ref (s_a σ i)]) rfl ?_
      refine lv_astore_n (lv' := [(2, .ref (s_a σ i)), (0, .ref (G 0)), (1, .int (nI i))]) cx.x cx.b dX10_cost_5 rfl hl (by decide) rfl (fun ls hl => ?_)
      refine lv_aload_n cx.x cx.b dX10_cost_6 rfl (lv_at hl 0 rfl) ?_
      refine lv_ifnonnull (tgt := 13) cx.x cx.b dX10_cost_7 (by decide) ?_
      refine lv_aload_n cx.x cx.b dX10_cost_13 rfl (lv_at hl 0 rfl) ?_
      refine cgo_i cx hw (rS_i (n := 1) (As := [.ref (s_a σ i)]) (rest := []) cx hw (c_X10_isSold l D G Q σ i hn hd) (gd_S tw_737 tw_738 tw_1 tw_739) ⟨by decide +kernel, rfl, hl.1, (Nat.le_of_ble_eq_true rfl), ⟨(Nat.le_of_ble_eq_true rfl), (Nat.le_of_ble_eq_true rfl)⟩, ⟨(Nat.le_of_ble_eq_true rfl), (Nat.le_of_ble_eq_true rfl)⟩, rfl, rfl⟩ rfl dX10_cost_14) (fun r u H locs hp hw => ?_)
      obtain ⟨h8, h9⟩ := hp
      have h8 := h8.symm
      have h9 := h9.symm
      subst h8
      subst h9
      refine lv_if_eq (tgt := 27) cx.x cx.b dX10_cost_17 (by decide) (fun hb17 => absurd hm ((sold_w hd).mp hb17)) (fun hb17 => ?_)
      refine lv_aload_n cx.x cx.b dX10_cost_20 rfl (lv_at hl 0 rfl) ?_
      refine cgo_xi cx hw (rS_xi (n := 1) (As := [.ref (s_a σ i)]) (rest := []) cx hw (c_X10_priceOf l hl0 D G Q σ i hn hd) (gd_S tw_740 tw_741 tw_1 tw_742) ⟨by decide +kernel, rfl, hl.1, (Nat.le_of_ble_eq_true rfl), ⟨(Nat.le_of_ble_eq_true rfl), (Nat.le_of_ble_eq_true rfl)⟩, ⟨(Nat.le_of_ble_eq_true rfl), (Nat.le_of_ble_eq_true rfl)⟩, rfl, rfl⟩ rfl dX10_cost_21) (fun E ce q u H locs hp hw h1 h2 h3 => ?_) (fun r u H locs hp hw => ?_)
      · obtain ⟨g1, g2, g3⟩ := hp
        subst g3
        exact xout_i _ htab cx hw (exA_of (by unfold aCost; rw [if_pos hv, cl20 hN9 hn, if_pos hm, if_pos g1]) ⟨rfl, g2⟩) (Nat.le_of_ble_eq_true rfl) (Nat.le_of_ble_eq_true rfl) h1 h2 h3
      obtain ⟨g1, h8, h9⟩ := hp
      have h8 := h8.symm
      have h9 := h9.symm
      subst h8
      subst h9
      refine lv_goto (tgt := 29) cx.x cx.b dX10_cost_24 (by decide) ?_
      exact xret_i (rWorth (s_k σ i) i σ) cx hw (okA_of (by unfold aCost; rw [if_pos hv, cl20 hN9 hn, if_pos hm, if_neg g1])) dX10_cost_29 (Nat.le_of_ble_eq_true rfl) (Nat.le_of_ble_eq_true rfl)
    · refine lv_aload_n cx.x cx.b dX10_cost_0 rfl (lv_at hl 0 rfl) ?_
      refine lv_iload_n cx.x cx.b dX10_cost_1 rfl (lv_at hl 1 rfl) ?_
      refine cgo_r cx hw (rV_r (q0 := 0) (n := 1) (As := [.int (nI i)]) (rest := []) cx hw (c_findLoaf_s l D G Q σ hN9 i hn) (gd_V tw_294 tw_296 ts_2 tw_1 tw_297) rfl ⟨by decide +kernel, rfl, hl.1, (Nat.le_of_ble_eq_true rfl), ⟨(Nat.le_of_ble_eq_true rfl), (Nat.le_of_ble_eq_true rfl)⟩, ⟨(Nat.le_of_ble_eq_true rfl), (Nat.le_of_ble_eq_true rfl)⟩, rfl, rfl⟩ rfl (kw_h σ) rfl dX10_cost_2) (fun r u H locs hp hw => ?_)
      obtain ⟨h8, h9⟩ := hp
      have h8 := h8.symm
      have h9 := h9.symm
      subst h8
      subst h9
      refine W.eq (g2 := F0 m 5 ls [.ref (s_a σ i)]) rfl ?_
      refine lv_astore_n (lv' := [(2, .ref (s_a σ i)), (0, .ref (G 0)), (1, .int (nI i))]) cx.x cx.b dX10_cost_5 rfl hl (by decide) rfl (fun ls hl => ?_)
      refine lv_aload_n cx.x cx.b dX10_cost_6 rfl (lv_at hl 0 rfl) ?_
      refine lv_ifnonnull (tgt := 13) cx.x cx.b dX10_cost_7 (by decide) ?_
      refine lv_aload_n cx.x cx.b dX10_cost_13 rfl (lv_at hl 0 rfl) ?_
      refine cgo_i cx hw (rS_i (n := 1) (As := [.ref (s_a σ i)]) (rest := []) cx hw (c_X10_isSold l D G Q σ i hn hd) (gd_S tw_737 tw_738 tw_1 tw_739) ⟨by decide +kernel, rfl, hl.1, (Nat.le_of_ble_eq_true rfl), ⟨(Nat.le_of_ble_eq_true rfl), (Nat.le_of_ble_eq_true rfl)⟩, ⟨(Nat.le_of_ble_eq_true rfl), (Nat.le_of_ble_eq_true rfl)⟩, rfl, rfl⟩ rfl dX10_cost_14) (fun r u H locs hp hw => ?_)
      obtain ⟨h8, h9⟩ := hp
      have h8 := h8.symm
      have h9 := h9.symm
      subst h8
      subst h9
      refine lv_if_eq (tgt := 27) cx.x cx.b dX10_cost_17 (by decide) (fun hb17 => ?_) (fun hb17 => absurd ((sold_w hd).mpr hm) hb17)
      refine lv_bipush (v := (-103)) cx.x cx.b dX10_cost_27 (by decide) ?_
      exact xret_i σ cx hw (okA_of (by unfold aCost; rw [if_pos hv, cl20 hN9 hn, if_neg hm])) dX10_cost_29 (Nat.le_of_ble_eq_true rfl) (Nat.le_of_ble_eq_true rfl)
  · have hv9 := okL_n hN9 hv
    refine lv_aload_n cx.x cx.b dX10_cost_0 rfl (lv_at hl 0 rfl) ?_
    refine lv_iload_n cx.x cx.b dX10_cost_1 rfl (lv_at hl 1 rfl) ?_
    refine cgo_r cx hw (rV_r (q0 := 0) (n := 1) (As := [.int lo]) (rest := []) cx hw (c_findLoaf_n l D G Q σ hN9 lo hv9) (gd_V tw_294 tw_296 ts_2 tw_1 tw_297) rfl ⟨by decide +kernel, rfl, hl.1, (Nat.le_of_ble_eq_true rfl), ⟨(Nat.le_of_ble_eq_true rfl), (Nat.le_of_ble_eq_true rfl)⟩, ⟨(Nat.le_of_ble_eq_true rfl), (Nat.le_of_ble_eq_true rfl)⟩, rfl, rfl⟩ rfl (kw_h σ) rfl dX10_cost_2) (fun r u H locs hp hw => ?_)
    obtain ⟨h8, h9⟩ := hp
    have h8 := h8.symm
    have h9 := h9.symm
    subst h8
    subst h9
    refine W.eq (g2 := F0 m 5 ls [.null]) rfl ?_
    refine lv_astore_nN (lv' := [(2, .null), (0, .ref (G 0)), (1, .int lo)]) cx.x cx.b dX10_cost_5 rfl hl (by decide) rfl (fun ls hl => ?_)
    refine lv_aload_nN cx.x cx.b dX10_cost_6 rfl (lv_at hl 0 rfl) ?_
    refine lv_ifnonnullN cx.x cx.b dX10_cost_7 ?_
    refine lv_bipush (v := (-101)) cx.x cx.b dX10_cost_10 (by decide) ?_
    exact xret_i σ cx hw (okA_of (by unfold aCost; rw [if_neg hv])) dX10_cost_12 (Nat.le_of_ble_eq_true rfl) (Nat.le_of_ble_eq_true rfl)
set_option maxHeartbeats 4000000 in
set_option maxRecDepth 100000 in
theorem c_X10_change (l : Launch) (hl0 : l.stackTraces = false) (D : va_G) (G : Nat → Nat) (Q : Nat → ClassId) (σ : St) {b : Nat} (hI : Inv b σ) (lo co : Int32) : XI l yX10_change cX10_change 5 .int ({ frames := 17, cells := 1, slots := 6, locals := 621 }) D cls (tyl Q) [.ref (G 0), .int lo, .int co] (kw G Q) (kw G Q σ) (okA (aChange σ lo co)) (exA eARI (aChange σ lo co)) 1 6 := by
  refine XI_of (by decide) (Nat.le_of_ble_eq_true rfl) ?_
  intro p e s m args below meth c A ls htab cx hw hl
  have hl : lv_has ls 5 [(0, .ref (G 0)), (1, .int lo), (2, .int co)] := hl
  have hN9 := hI.n
  by_cases hv : okL σ lo
  · obtain ⟨i, hn, rfl⟩ := okL_i hN9 hv
    have hd := hI.k hn
    by_cases hc : 0 ≤ co ∧ co ≤ 100000
    · by_cases hm : sold (s_k σ i)
      · refine lv_aload_n cx.x cx.b dX10_change_0 rfl (lv_at hl 0 rfl) ?_
        refine lv_iload_n cx.x cx.b dX10_change_1 rfl (lv_at hl 1 rfl) ?_
        refine cgo_r cx hw (rV_r (q0 := 0) (n := 1) (As := [.int (nI i)]) (rest := []) cx hw (c_findLoaf_s l D G Q σ hN9 i hn) (gd_V tw_294 tw_296 ts_2 tw_1 tw_297) rfl ⟨by decide +kernel, rfl, hl.1, (Nat.le_of_ble_eq_true rfl), ⟨(Nat.le_of_ble_eq_true rfl), (Nat.le_of_ble_eq_true rfl)⟩, ⟨(Nat.le_of_ble_eq_true rfl), (Nat.le_of_ble_eq_true rfl)⟩, rfl, rfl⟩ rfl (kw_h σ) rfl dX10_change_2) (fun r u H locs hp hw => ?_)
        obtain ⟨h8, h9⟩ := hp
        have h8 := h8.symm
        have h9 := h9.symm
        subst h8
        subst h9
        refine W.eq (g2 := F0 m 5 ls [.ref (s_a σ i)]) rfl ?_
        refine lv_astore_n (lv' := [(3, .ref (s_a σ i)), (0, .ref (G 0)), (1, .int (nI i)), (2, .int co)]) cx.x cx.b dX10_change_5 rfl hl (by decide) rfl (fun ls hl => ?_)
        refine lv_aload_n cx.x cx.b dX10_change_6 rfl (lv_at hl 0 rfl) ?_
        refine lv_ifnonnull (tgt := 13) cx.x cx.b dX10_change_7 (by decide) ?_
        refine lv_iload_n cx.x cx.b dX10_change_13 rfl (lv_at hl 3 rfl) ?_
        refine lv_iconst (v := 0) cx.x cx.b dX10_change_14 (by decide) ?_
        refine lv_ldc (v := 100000) cx.x cx.b cx.ow (cx.ts _ tw_750) dX10_change_15 ?_
        refine cgo_i cx hw (rS_i (n := 3) (As := [.int co, .int 0, .int 100000]) (rest := []) cx hw (c_X10_within l D G Q σ co 0 100000) (gd_S tw_102 tw_103 tw_1 tw_104) ⟨by decide +kernel, rfl, hl.1, (Nat.le_of_ble_eq_true rfl), ⟨(Nat.le_of_ble_eq_true rfl), (Nat.le_of_ble_eq_true rfl)⟩, ⟨(Nat.le_of_ble_eq_true rfl), (Nat.le_of_ble_eq_true rfl)⟩, rfl, rfl⟩ rfl dX10_change_17) (fun r u H locs hp hw => ?_)
        obtain ⟨h8, h9⟩ := hp
        have h8 := h8.symm
        have h9 := h9.symm
        subst h8
        subst h9
        refine lv_if_ne (tgt := 26) cx.x cx.b dX10_change_20 (by decide) (fun hb20 => ?_) (fun hb20 => absurd hb20 (by rw [wth_eq0]; exact fun h => h hc))
        refine lv_aload_n cx.x cx.b dX10_change_26 rfl (lv_at hl 0 rfl) ?_
        refine cgo_i cx hw (rS_i (n := 1) (As := [.ref (s_a σ i)]) (rest := []) cx hw (c_X10_isSold l D G Q σ i hn hd) (gd_S tw_737 tw_738 tw_1 tw_739) ⟨by decide +kernel, rfl, hl.1, (Nat.le_of_ble_eq_true rfl), ⟨(Nat.le_of_ble_eq_true rfl), (Nat.le_of_ble_eq_true rfl)⟩, ⟨(Nat.le_of_ble_eq_true rfl), (Nat.le_of_ble_eq_true rfl)⟩, rfl, rfl⟩ rfl dX10_change_27) (fun r u H locs hp hw => ?_)
        obtain ⟨h8, h9⟩ := hp
        have h8 := h8.symm
        have h9 := h9.symm
        subst h8
        subst h9
        refine lv_if_ne (tgt := 36) cx.x cx.b dX10_change_30 (by decide) (fun hb30 => ?_) (fun hb30 => absurd hm ((sold_w hd).mp hb30))
        refine lv_iload_n cx.x cx.b dX10_change_36 rfl (lv_at hl 3 rfl) ?_
        refine lv_aload_n cx.x cx.b dX10_change_37 rfl (lv_at hl 0 rfl) ?_
        refine cgo_xi cx hw (rS_xi (n := 1) (As := [.ref (s_a σ i)]) (rest := [.int co]) cx hw (c_X10_priceOf l hl0 D G Q σ i hn hd) (gd_S tw_740 tw_741 tw_1 tw_742) ⟨by decide +kernel, rfl, hl.1, (Nat.le_of_ble_eq_true rfl), ⟨(Nat.le_of_ble_eq_true rfl), (Nat.le_of_ble_eq_true rfl)⟩, ⟨(Nat.le_of_ble_eq_true rfl), (Nat.le_of_ble_eq_true rfl)⟩, rfl, rfl⟩ rfl dX10_change_38) (fun E ce q u H locs hp hw h1 h2 h3 => ?_) (fun r u H locs hp hw => ?_)
        · obtain ⟨g1, g2, g3⟩ := hp
          subst g3
          exact xout_i _ htab cx hw (exA_of (by unfold aChange; rw [if_pos hv, if_pos hc, cl20 hN9 hn, if_pos hm, if_pos g1]) ⟨rfl, g2⟩) (Nat.le_of_ble_eq_true rfl) (Nat.le_of_ble_eq_true rfl) h1 h2 h3
        obtain ⟨g1, h8, h9⟩ := hp
        have h8 := h8.symm
        have h9 := h9.symm
        subst h8
        subst h9
        refine lv_isub cx.x cx.b dX10_change_41 ?_
        refine lv_istore (lv' := [(4, .int (co - (vCost (s_k σ i) i σ))), (3, .ref (s_a σ i)), (0, .ref (G 0)), (1, .int (nI i)), (2, .int co)]) cx.x cx.b dX10_change_42 hl (by decide) rfl (fun ls hl => ?_)
        refine lv_iload cx.x cx.b dX10_change_44 (lv_at hl 0 rfl) ?_
        refine lv_if_ge (tgt := 53) cx.x cx.b dX10_change_46 (by decide) (fun hb46 => ?_) (fun hb46 => ?_)
        · refine lv_iload cx.x cx.b dX10_change_53 (lv_at hl 0 rfl) ?_
          exact xret_i (rWorth (s_k σ i) i σ) cx hw (okA_of (by unfold aChange; rw [if_pos hv, if_pos hc, cl20 hN9 hn, if_pos hm, if_neg g1, chg, if_pos hb46])) dX10_change_55 (Nat.le_of_ble_eq_true rfl) (Nat.le_of_ble_eq_true rfl)
        · refine lv_iconst (v := (-1)) cx.x cx.b dX10_change_49 (by decide) ?_
          refine lv_goto (tgt := 55) cx.x cx.b dX10_change_50 (by decide) ?_
          exact xret_i (rWorth (s_k σ i) i σ) cx hw (okA_of (by unfold aChange; rw [if_pos hv, if_pos hc, cl20 hN9 hn, if_pos hm, if_neg g1, chg, if_neg hb46])) dX10_change_55 (Nat.le_of_ble_eq_true rfl) (Nat.le_of_ble_eq_true rfl)
      · refine lv_aload_n cx.x cx.b dX10_change_0 rfl (lv_at hl 0 rfl) ?_
        refine lv_iload_n cx.x cx.b dX10_change_1 rfl (lv_at hl 1 rfl) ?_
        refine cgo_r cx hw (rV_r (q0 := 0) (n := 1) (As := [.int (nI i)]) (rest := []) cx hw (c_findLoaf_s l D G Q σ hN9 i hn) (gd_V tw_294 tw_296 ts_2 tw_1 tw_297) rfl ⟨by decide +kernel, rfl, hl.1, (Nat.le_of_ble_eq_true rfl), ⟨(Nat.le_of_ble_eq_true rfl), (Nat.le_of_ble_eq_true rfl)⟩, ⟨(Nat.le_of_ble_eq_true rfl), (Nat.le_of_ble_eq_true rfl)⟩, rfl, rfl⟩ rfl (kw_h σ) rfl dX10_change_2) (fun r u H locs hp hw => ?_)
        obtain ⟨h8, h9⟩ := hp
        have h8 := h8.symm
        have h9 := h9.symm
        subst h8
        subst h9
        refine W.eq (g2 := F0 m 5 ls [.ref (s_a σ i)]) rfl ?_
        refine lv_astore_n (lv' := [(3, .ref (s_a σ i)), (0, .ref (G 0)), (1, .int (nI i)), (2, .int co)]) cx.x cx.b dX10_change_5 rfl hl (by decide) rfl (fun ls hl => ?_)
        refine lv_aload_n cx.x cx.b dX10_change_6 rfl (lv_at hl 0 rfl) ?_
        refine lv_ifnonnull (tgt := 13) cx.x cx.b dX10_change_7 (by decide) ?_
        refine lv_iload_n cx.x cx.b dX10_change_13 rfl (lv_at hl 3 rfl) ?_
        refine lv_iconst (v := 0) cx.x cx.b dX10_change_14 (by decide) ?_
        refine lv_ldc (v := 100000) cx.x cx.b cx.ow (cx.ts _ tw_750) dX10_change_15 ?_
        refine cgo_i cx hw (rS_i (n := 3) (As := [.int co, .int 0, .int 100000]) (rest := []) cx hw (c_X10_within l D G Q σ co 0 100000) (gd_S tw_102 tw_103 tw_1 tw_104) ⟨by decide +kernel, rfl, hl.1, (Nat.le_of_ble_eq_true rfl), ⟨(Nat.le_of_ble_eq_true rfl), (Nat.le_of_ble_eq_true rfl)⟩, ⟨(Nat.le_of_ble_eq_true rfl), (Nat.le_of_ble_eq_true rfl)⟩, rfl, rfl⟩ rfl dX10_change_17) (fun r u H locs hp hw => ?_)
        obtain ⟨h8, h9⟩ := hp
        have h8 := h8.symm
        have h9 := h9.symm
        subst h8
        subst h9
        refine lv_if_ne (tgt := 26) cx.x cx.b dX10_change_20 (by decide) (fun hb20 => ?_) (fun hb20 => absurd hb20 (by rw [wth_eq0]; exact fun h => h hc))
        refine lv_aload_n cx.x cx.b dX10_change_26 rfl (lv_at hl 0 rfl) ?_
        refine cgo_i cx hw (rS_i (n := 1) (As := [.ref (s_a σ i)]) (rest := []) cx hw (c_X10_isSold l D G Q σ i hn hd) (gd_S tw_737 tw_738 tw_1 tw_739) ⟨by decide +kernel, rfl, hl.1, (Nat.le_of_ble_eq_true rfl), ⟨(Nat.le_of_ble_eq_true rfl), (Nat.le_of_ble_eq_true rfl)⟩, ⟨(Nat.le_of_ble_eq_true rfl), (Nat.le_of_ble_eq_true rfl)⟩, rfl, rfl⟩ rfl dX10_change_27) (fun r u H locs hp hw => ?_)
        obtain ⟨h8, h9⟩ := hp
        have h8 := h8.symm
        have h9 := h9.symm
        subst h8
        subst h9
        refine lv_if_ne (tgt := 36) cx.x cx.b dX10_change_30 (by decide) (fun hb30 => absurd ((sold_w hd).mpr hm) hb30) (fun hb30 => ?_)
        refine lv_bipush (v := (-103)) cx.x cx.b dX10_change_33 (by decide) ?_
        exact xret_i σ cx hw (okA_of (by unfold aChange; rw [if_pos hv, if_pos hc, cl20 hN9 hn, if_neg hm])) dX10_change_35 (Nat.le_of_ble_eq_true rfl) (Nat.le_of_ble_eq_true rfl)
    · refine lv_aload_n cx.x cx.b dX10_change_0 rfl (lv_at hl 0 rfl) ?_
      refine lv_iload_n cx.x cx.b dX10_change_1 rfl (lv_at hl 1 rfl) ?_
      refine cgo_r cx hw (rV_r (q0 := 0) (n := 1) (As := [.int (nI i)]) (rest := []) cx hw (c_findLoaf_s l D G Q σ hN9 i hn) (gd_V tw_294 tw_296 ts_2 tw_1 tw_297) rfl ⟨by decide +kernel, rfl, hl.1, (Nat.le_of_ble_eq_true rfl), ⟨(Nat.le_of_ble_eq_true rfl), (Nat.le_of_ble_eq_true rfl)⟩, ⟨(Nat.le_of_ble_eq_true rfl), (Nat.le_of_ble_eq_true rfl)⟩, rfl, rfl⟩ rfl (kw_h σ) rfl dX10_change_2) (fun r u H locs hp hw => ?_)
      obtain ⟨h8, h9⟩ := hp
      have h8 := h8.symm
      have h9 := h9.symm
      subst h8
      subst h9
      refine W.eq (g2 := F0 m 5 ls [.ref (s_a σ i)]) rfl ?_
      refine lv_astore_n (lv' := [(3, .ref (s_a σ i)), (0, .ref (G 0)), (1, .int (nI i)), (2, .int co)]) cx.x cx.b dX10_change_5 rfl hl (by decide) rfl (fun ls hl => ?_)
      refine lv_aload_n cx.x cx.b dX10_change_6 rfl (lv_at hl 0 rfl) ?_
      refine lv_ifnonnull (tgt := 13) cx.x cx.b dX10_change_7 (by decide) ?_
      refine lv_iload_n cx.x cx.b dX10_change_13 rfl (lv_at hl 3 rfl) ?_
      refine lv_iconst (v := 0) cx.x cx.b dX10_change_14 (by decide) ?_
      refine lv_ldc (v := 100000) cx.x cx.b cx.ow (cx.ts _ tw_750) dX10_change_15 ?_
      refine cgo_i cx hw (rS_i (n := 3) (As := [.int co, .int 0, .int 100000]) (rest := []) cx hw (c_X10_within l D G Q σ co 0 100000) (gd_S tw_102 tw_103 tw_1 tw_104) ⟨by decide +kernel, rfl, hl.1, (Nat.le_of_ble_eq_true rfl), ⟨(Nat.le_of_ble_eq_true rfl), (Nat.le_of_ble_eq_true rfl)⟩, ⟨(Nat.le_of_ble_eq_true rfl), (Nat.le_of_ble_eq_true rfl)⟩, rfl, rfl⟩ rfl dX10_change_17) (fun r u H locs hp hw => ?_)
      obtain ⟨h8, h9⟩ := hp
      have h8 := h8.symm
      have h9 := h9.symm
      subst h8
      subst h9
      refine lv_if_ne (tgt := 26) cx.x cx.b dX10_change_20 (by decide) (fun hb20 => absurd (wth_eq0.mpr hc) hb20) (fun hb20 => ?_)
      refine lv_bipush (v := (-102)) cx.x cx.b dX10_change_23 (by decide) ?_
      exact xret_i σ cx hw (okA_of (by unfold aChange; rw [if_pos hv, if_neg hc])) dX10_change_25 (Nat.le_of_ble_eq_true rfl) (Nat.le_of_ble_eq_true rfl)
  · have hv9 := okL_n hN9 hv
    refine lv_aload_n cx.x cx.b dX10_change_0 rfl (lv_at hl 0 rfl) ?_
    refine lv_iload_n cx.x cx.b dX10_change_1 rfl (lv_at hl 1 rfl) ?_
    refine cgo_r cx hw (rV_r (q0 := 0) (n := 1) (As := [.int lo]) (rest := []) cx hw (c_findLoaf_n l D G Q σ hN9 lo hv9) (gd_V tw_294 tw_296 ts_2 tw_1 tw_297) rfl ⟨by decide +kernel, rfl, hl.1, (Nat.le_of_ble_eq_true rfl), ⟨(Nat.le_of_ble_eq_true rfl), (Nat.le_of_ble_eq_true rfl)⟩, ⟨(Nat.le_of_ble_eq_true rfl), (Nat.le_of_ble_eq_true rfl)⟩, rfl, rfl⟩ rfl (kw_h σ) rfl dX10_change_2) (fun r u H locs hp hw => ?_)
    obtain ⟨h8, h9⟩ := hp
    have h8 := h8.symm
    have h9 := h9.symm
    subst h8
    subst h9
    refine W.eq (g2 := F0 m 5 ls [.null]) rfl ?_
    refine lv_astore_nN (lv' := [(3, .null), (0, .ref (G 0)), (1, .int lo), (2, .int co)]) cx.x cx.b dX10_change_5 rfl hl (by decide) rfl (fun ls hl => ?_)
    refine lv_aload_nN cx.x cx.b dX10_change_6 rfl (lv_at hl 0 rfl) ?_
    refine lv_ifnonnullN cx.x cx.b dX10_change_7 ?_
    refine lv_bipush (v := (-101)) cx.x cx.b dX10_change_10 (by decide) ?_
    exact xret_i σ cx hw (okA_of (by unfold aChange; rw [if_neg hv])) dX10_change_12 (Nat.le_of_ble_eq_true rfl) (Nat.le_of_ble_eq_true rfl)
set_option maxHeartbeats 4000000 in
set_option maxRecDepth 100000 in
theorem c_X10_at (l : Launch) (D : va_G) (G : Nat → Nat) (Q : Nat → ClassId) (σ : St) (ks pl : Int32) : MI l yX10_at cX10_at 4 .int ({ frames := 2, cells := 0, slots := 0, locals := 43 }) D cls (tyl Q) [.ref (G 0), .int ks, .int pl] (kw G Q) (kw G Q σ) (okA (aAt σ ks pl)) 0 0 := by
  refine MI_of (by decide) (Nat.le_of_ble_eq_true rfl) ?_
  intro p e s m args below meth c A ls cx hw hl
  have hl : lv_has ls 4 [(0, .ref (G 0)), (1, .int ks), (2, .int pl)] := hl
  by_cases hv : okS ks
  · obtain ⟨k, hk, rfl⟩ := okS_k hv
    refine lv_aload_n cx.x cx.b dX10_at_0 rfl (lv_at hl 0 rfl) ?_
    refine lv_iload_n cx.x cx.b dX10_at_1 rfl (lv_at hl 1 rfl) ?_
    refine cgo_r cx hw (rV_r (q0 := 0) (n := 1) (As := [.int (nI k)]) (rest := []) cx hw (c_findShelf_s l D G Q σ k hk) (gd_V tw_278 tw_280 ts_1 tw_1 tw_281) rfl ⟨by decide +kernel, rfl, hl.1, (Nat.le_of_ble_eq_true rfl), ⟨(Nat.le_of_ble_eq_true rfl), (Nat.le_of_ble_eq_true rfl)⟩, ⟨(Nat.le_of_ble_eq_true rfl), (Nat.le_of_ble_eq_true rfl)⟩, rfl, rfl⟩ rfl (kw_h σ) rfl dX10_at_2) (fun r u H locs hp hw => ?_)
    obtain ⟨h8, h9⟩ := hp
    have h8 := h8.symm
    have h9 := h9.symm
    subst h8
    subst h9
    refine W.eq (g2 := F0 m 5 ls [.ref (G (5 + k))]) rfl ?_
    refine lv_astore_n (lv' := [(3, .ref (G (5 + k))), (0, .ref (G 0)), (1, .int (nI k)), (2, .int pl)]) cx.x cx.b dX10_at_5 rfl hl (by decide) rfl (fun ls hl => ?_)
    refine lv_aload_n cx.x cx.b dX10_at_6 rfl (lv_at hl 0 rfl) ?_
    refine lv_ifnonnull (tgt := 15) cx.x cx.b dX10_at_7 (by decide) ?_
    refine lv_aload_n cx.x cx.b dX10_at_15 rfl (lv_at hl 0 rfl) ?_
    refine lv_iload_n cx.x cx.b dX10_at_16 rfl (lv_at hl 3 rfl) ?_
    refine cgo_i cx hw (rV_i (q0 := (5 + k)) (n := 1) (As := [.int pl]) (rest := []) cx hw (c_X7_loafIn l D G Q σ k hk pl) (gd_V tw_386 tw_387 tw_388 tw_3 tw_389) rfl ⟨by decide +kernel, rfl, hl.1, (Nat.le_of_ble_eq_true rfl), ⟨(Nat.le_of_ble_eq_true rfl), (Nat.le_of_ble_eq_true rfl)⟩, ⟨(Nat.le_of_ble_eq_true rfl), (Nat.le_of_ble_eq_true rfl)⟩, rfl, rfl⟩ rfl (kw_s σ hk) rfl dX10_at_17) (fun r u H locs hp hw => ?_)
    obtain ⟨h8, h9⟩ := hp
    have h8 := h8.symm
    have h9 := h9.symm
    subst h8
    subst h9
    exact ret_i σ cx hw (okA_of (by unfold aAt; rw [if_pos hv, cl4 hk])) dX10_at_20 (Nat.le_of_ble_eq_true rfl) (Nat.le_of_ble_eq_true rfl)
  · have hs9 := okS_n hv
    refine lv_aload_n cx.x cx.b dX10_at_0 rfl (lv_at hl 0 rfl) ?_
    refine lv_iload_n cx.x cx.b dX10_at_1 rfl (lv_at hl 1 rfl) ?_
    refine cgo_r cx hw (rV_r (q0 := 0) (n := 1) (As := [.int ks]) (rest := []) cx hw (c_findShelf_n l D G Q σ ks hs9) (gd_V tw_278 tw_280 ts_1 tw_1 tw_281) rfl ⟨by decide +kernel, rfl, hl.1, (Nat.le_of_ble_eq_true rfl), ⟨(Nat.le_of_ble_eq_true rfl), (Nat.le_of_ble_eq_true rfl)⟩, ⟨(Nat.le_of_ble_eq_true rfl), (Nat.le_of_ble_eq_true rfl)⟩, rfl, rfl⟩ rfl (kw_h σ) rfl dX10_at_2) (fun r u H locs hp hw => ?_)
    obtain ⟨h8, h9⟩ := hp
    have h8 := h8.symm
    have h9 := h9.symm
    subst h8
    subst h9
    refine W.eq (g2 := F0 m 5 ls [.null]) rfl ?_
    refine lv_astore_nN (lv' := [(3, .null), (0, .ref (G 0)), (1, .int ks), (2, .int pl)]) cx.x cx.b dX10_at_5 rfl hl (by decide) rfl (fun ls hl => ?_)
    refine lv_aload_nN cx.x cx.b dX10_at_6 rfl (lv_at hl 0 rfl) ?_
    refine lv_ifnonnullN cx.x cx.b dX10_at_7 ?_
    refine lv_bipush (v := (-102)) cx.x cx.b dX10_at_10 (by decide) ?_
    refine lv_goto (tgt := 20) cx.x cx.b dX10_at_12 (by decide) ?_
    exact ret_i σ cx hw (okA_of (by unfold aAt; rw [if_neg hv])) dX10_at_20 (Nat.le_of_ble_eq_true rfl) (Nat.le_of_ble_eq_true rfl)
set_option maxHeartbeats 4000000 in
set_option maxRecDepth 100000 in
theorem c_X10_places (l : Launch) (D : va_G) (G : Nat → Nat) (Q : Nat → ClassId) (σ : St) (ks : Int32) : MI l yX10_places cX10_places 3 .int ({ frames := 2, cells := 0, slots := 0, locals := 43 }) D cls (tyl Q) [.ref (G 0), .int ks] (kw G Q) (kw G Q σ) (okA (aPlaces σ ks)) 0 0 := by
  refine MI_of (by decide) (Nat.le_of_ble_eq_true rfl) ?_
  intro p e s m args below meth c A ls cx hw hl
  have hl : lv_has ls 3 [(0, .ref (G 0)), (1, .int ks)] := hl
  by_cases hv : okS ks
  · obtain ⟨k, hk, rfl⟩ := okS_k hv
    refine lv_aload_n cx.x cx.b dX10_places_0 rfl (lv_at hl 0 rfl) ?_
    refine lv_iload_n cx.x cx.b dX10_places_1 rfl (lv_at hl 1 rfl) ?_
    refine cgo_r cx hw (rV_r (q0 := 0) (n := 1) (As := [.int (nI k)]) (rest := []) cx hw (c_findShelf_s l D G Q σ k hk) (gd_V tw_278 tw_280 ts_1 tw_1 tw_281) rfl ⟨by decide +kernel, rfl, hl.1, (Nat.le_of_ble_eq_true rfl), ⟨(Nat.le_of_ble_eq_true rfl), (Nat.le_of_ble_eq_true rfl)⟩, ⟨(Nat.le_of_ble_eq_true rfl), (Nat.le_of_ble_eq_true rfl)⟩, rfl, rfl⟩ rfl (kw_h σ) rfl dX10_places_2) (fun r u H locs hp hw => ?_)
    obtain ⟨h8, h9⟩ := hp
    have h8 := h8.symm
    have h9 := h9.symm
    subst h8
    subst h9
    refine W.eq (g2 := F0 m 5 ls [.ref (G (5 + k))]) rfl ?_
    refine lv_astore_n (lv' := [(2, .ref (G (5 + k))), (0, .ref (G 0)), (1, .int (nI k))]) cx.x cx.b dX10_places_5 rfl hl (by decide) rfl (fun ls hl => ?_)
    refine lv_aload_n cx.x cx.b dX10_places_6 rfl (lv_at hl 0 rfl) ?_
    refine lv_ifnonnull (tgt := 13) cx.x cx.b dX10_places_7 (by decide) ?_
    refine lv_aload_n cx.x cx.b dX10_places_13 rfl (lv_at hl 0 rfl) ?_
    refine cgo_i cx hw (rV_i (q0 := (5 + k)) (n := 0) (As := []) (rest := []) cx hw (c_X7_isOut l D G Q σ k hk) (gd_V tw_282 tw_283 tw_284 tw_3 tw_285) rfl ⟨by decide +kernel, rfl, hl.1, (Nat.le_of_ble_eq_true rfl), ⟨(Nat.le_of_ble_eq_true rfl), (Nat.le_of_ble_eq_true rfl)⟩, ⟨(Nat.le_of_ble_eq_true rfl), (Nat.le_of_ble_eq_true rfl)⟩, rfl, rfl⟩ rfl (kw_s σ hk) rfl dX10_places_14) (fun r u H locs hp hw => ?_)
    obtain ⟨h8, h9⟩ := hp
    have h8 := h8.symm
    have h9 := h9.symm
    subst h8
    subst h9
    refine lv_if_eq (tgt := 24) cx.x cx.b dX10_places_17 (by decide) (fun hb17 => ?_) (fun hb17 => ?_)
    · refine lv_aload_n cx.x cx.b dX10_places_24 rfl (lv_at hl 0 rfl) ?_
      refine gt_f (v := .int (s_z σ k)) cx hw (5 + k) (kw_s σ hk) rfl inX7 1 (by decide) tw_77 ⟨rfl, rfl, Or.inl rfl⟩ rfl dX10_places_25 ?_
      exact ret_i σ cx hw (okA_of (by unfold aPlaces; rw [if_pos hv, cl4 hk])) dX10_places_28 (Nat.le_of_ble_eq_true rfl) (Nat.le_of_ble_eq_true rfl)
    · refine lv_iconst (v := (-1)) cx.x cx.b dX10_places_20 (by decide) ?_
      refine lv_goto (tgt := 28) cx.x cx.b dX10_places_21 (by decide) ?_
      exact ret_i σ cx hw (okA_of (by unfold aPlaces; rw [if_pos hv, cl4 hk, Decidable.not_not.mp (fun h => hb17 (b01_eq0.mpr h))])) dX10_places_28 (Nat.le_of_ble_eq_true rfl) (Nat.le_of_ble_eq_true rfl)
  · have hs9 := okS_n hv
    refine lv_aload_n cx.x cx.b dX10_places_0 rfl (lv_at hl 0 rfl) ?_
    refine lv_iload_n cx.x cx.b dX10_places_1 rfl (lv_at hl 1 rfl) ?_
    refine cgo_r cx hw (rV_r (q0 := 0) (n := 1) (As := [.int ks]) (rest := []) cx hw (c_findShelf_n l D G Q σ ks hs9) (gd_V tw_278 tw_280 ts_1 tw_1 tw_281) rfl ⟨by decide +kernel, rfl, hl.1, (Nat.le_of_ble_eq_true rfl), ⟨(Nat.le_of_ble_eq_true rfl), (Nat.le_of_ble_eq_true rfl)⟩, ⟨(Nat.le_of_ble_eq_true rfl), (Nat.le_of_ble_eq_true rfl)⟩, rfl, rfl⟩ rfl (kw_h σ) rfl dX10_places_2) (fun r u H locs hp hw => ?_)
    obtain ⟨h8, h9⟩ := hp
    have h8 := h8.symm
    have h9 := h9.symm
    subst h8
    subst h9
    refine W.eq (g2 := F0 m 5 ls [.null]) rfl ?_
    refine lv_astore_nN (lv' := [(2, .null), (0, .ref (G 0)), (1, .int ks)]) cx.x cx.b dX10_places_5 rfl hl (by decide) rfl (fun ls hl => ?_)
    refine lv_aload_nN cx.x cx.b dX10_places_6 rfl (lv_at hl 0 rfl) ?_
    refine lv_ifnonnullN cx.x cx.b dX10_places_7 ?_
    refine lv_bipush (v := (-102)) cx.x cx.b dX10_places_10 (by decide) ?_
    exact ret_i σ cx hw (okA_of (by unfold aPlaces; rw [if_neg hv])) dX10_places_12 (Nat.le_of_ble_eq_true rfl) (Nat.le_of_ble_eq_true rfl)
set_option maxHeartbeats 4000000 in
set_option maxRecDepth 100000 in
theorem c_X10_out (l : Launch) (D : va_G) (G : Nat → Nat) (Q : Nat → ClassId) (σ : St) (ks : Int32) : MI l yX10_out cX10_out 3 .int ({ frames := 2, cells := 0, slots := 0, locals := 43 }) D cls (tyl Q) [.ref (G 0), .int ks] (kw G Q) (kw G Q σ) (okA (aOut σ ks)) 0 0 := by
  refine MI_of (by decide) (Nat.le_of_ble_eq_true rfl) ?_
  intro p e s m args below meth c A ls cx hw hl
  have hl : lv_has ls 3 [(0, .ref (G 0)), (1, .int ks)] := hl
  by_cases hv : okS ks
  · obtain ⟨k, hk, rfl⟩ := okS_k hv
    refine lv_aload_n cx.x cx.b dX10_out_0 rfl (lv_at hl 0 rfl) ?_
    refine lv_iload_n cx.x cx.b dX10_out_1 rfl (lv_at hl 1 rfl) ?_
    refine cgo_r cx hw (rV_r (q0 := 0) (n := 1) (As := [.int (nI k)]) (rest := []) cx hw (c_findShelf_s l D G Q σ k hk) (gd_V tw_278 tw_280 ts_1 tw_1 tw_281) rfl ⟨by decide +kernel, rfl, hl.1, (Nat.le_of_ble_eq_true rfl), ⟨(Nat.le_of_ble_eq_true rfl), (Nat.le_of_ble_eq_true rfl)⟩, ⟨(Nat.le_of_ble_eq_true rfl), (Nat.le_of_ble_eq_true rfl)⟩, rfl, rfl⟩ rfl (kw_h σ) rfl dX10_out_2) (fun r u H locs hp hw => ?_)
    obtain ⟨h8, h9⟩ := hp
    have h8 := h8.symm
    have h9 := h9.symm
    subst h8
    subst h9
    refine W.eq (g2 := F0 m 5 ls [.ref (G (5 + k))]) rfl ?_
    refine lv_astore_n (lv' := [(2, .ref (G (5 + k))), (0, .ref (G 0)), (1, .int (nI k))]) cx.x cx.b dX10_out_5 rfl hl (by decide) rfl (fun ls hl => ?_)
    refine lv_aload_n cx.x cx.b dX10_out_6 rfl (lv_at hl 0 rfl) ?_
    refine lv_ifnonnull (tgt := 13) cx.x cx.b dX10_out_7 (by decide) ?_
    refine lv_aload_n cx.x cx.b dX10_out_13 rfl (lv_at hl 0 rfl) ?_
    refine cgo_i cx hw (rV_i (q0 := (5 + k)) (n := 0) (As := []) (rest := []) cx hw (c_X7_isOut l D G Q σ k hk) (gd_V tw_282 tw_283 tw_284 tw_3 tw_285) rfl ⟨by decide +kernel, rfl, hl.1, (Nat.le_of_ble_eq_true rfl), ⟨(Nat.le_of_ble_eq_true rfl), (Nat.le_of_ble_eq_true rfl)⟩, ⟨(Nat.le_of_ble_eq_true rfl), (Nat.le_of_ble_eq_true rfl)⟩, rfl, rfl⟩ rfl (kw_s σ hk) rfl dX10_out_14) (fun r u H locs hp hw => ?_)
    obtain ⟨h8, h9⟩ := hp
    have h8 := h8.symm
    have h9 := h9.symm
    subst h8
    subst h9
    refine lv_if_eq (tgt := 22) cx.x cx.b dX10_out_17 (by decide) (fun hb17 => ?_) (fun hb17 => ?_)
    · refine lv_aload_n cx.x cx.b dX10_out_22 rfl (lv_at hl 0 rfl) ?_
      refine cgo_v cx hw (rV_v (q0 := (5 + k)) (n := 0) (As := []) (rest := []) cx hw (c_X7_takeOut l D G Q σ k hk) (gd_V tw_286 tw_287 tw_288 tw_3 tw_289) rfl ⟨by decide +kernel, rfl, hl.1, (Nat.le_of_ble_eq_true rfl), ⟨(Nat.le_of_ble_eq_true rfl), (Nat.le_of_ble_eq_true rfl)⟩, ⟨(Nat.le_of_ble_eq_true rfl), (Nat.le_of_ble_eq_true rfl)⟩, rfl, rfl⟩ rfl (kw_s σ hk) rfl dX10_out_23) (fun u H locs hp hw => ?_)
      have hp := hp.symm
      subst hp
      refine lv_iconst (v := 1) cx.x cx.b dX10_out_26 (by decide) ?_
      exact ret_i (sZ k (-1) σ) cx hw (okA_of (by unfold aOut; rw [if_pos hv, cl4 hk, if_neg (b01_eq0.mp hb17)])) dX10_out_27 (Nat.le_of_ble_eq_true rfl) (Nat.le_of_ble_eq_true rfl)
    · refine lv_iconst (v := 0) cx.x cx.b dX10_out_20 (by decide) ?_
      exact ret_i σ cx hw (okA_of (by unfold aOut; rw [if_pos hv, cl4 hk, if_pos (Decidable.not_not.mp (fun h => hb17 (b01_eq0.mpr h)))])) dX10_out_21 (Nat.le_of_ble_eq_true rfl) (Nat.le_of_ble_eq_true rfl)
  · have hs9 := okS_n hv
    refine lv_aload_n cx.x cx.b dX10_out_0 rfl (lv_at hl 0 rfl) ?_
    refine lv_iload_n cx.x cx.b dX10_out_1 rfl (lv_at hl 1 rfl) ?_
    refine cgo_r cx hw (rV_r (q0 := 0) (n := 1) (As := [.int ks]) (rest := []) cx hw (c_findShelf_n l D G Q σ ks hs9) (gd_V tw_278 tw_280 ts_1 tw_1 tw_281) rfl ⟨by decide +kernel, rfl, hl.1, (Nat.le_of_ble_eq_true rfl), ⟨(Nat.le_of_ble_eq_true rfl), (Nat.le_of_ble_eq_true rfl)⟩, ⟨(Nat.le_of_ble_eq_true rfl), (Nat.le_of_ble_eq_true rfl)⟩, rfl, rfl⟩ rfl (kw_h σ) rfl dX10_out_2) (fun r u H locs hp hw => ?_)
    obtain ⟨h8, h9⟩ := hp
    have h8 := h8.symm
    have h9 := h9.symm
    subst h8
    subst h9
    refine W.eq (g2 := F0 m 5 ls [.null]) rfl ?_
    refine lv_astore_nN (lv' := [(2, .null), (0, .ref (G 0)), (1, .int ks)]) cx.x cx.b dX10_out_5 rfl hl (by decide) rfl (fun ls hl => ?_)
    refine lv_aload_nN cx.x cx.b dX10_out_6 rfl (lv_at hl 0 rfl) ?_
    refine lv_ifnonnullN cx.x cx.b dX10_out_7 ?_
    refine lv_bipush (v := (-102)) cx.x cx.b dX10_out_10 (by decide) ?_
    exact ret_i σ cx hw (okA_of (by unfold aOut; rw [if_neg hv])) dX10_out_12 (Nat.le_of_ble_eq_true rfl) (Nat.le_of_ble_eq_true rfl)
set_option maxHeartbeats 4000000 in
set_option maxRecDepth 100000 in
theorem c_X10_shelf (l : Launch) (hl0 : l.stackTraces = false) (D : va_G) (G : Nat → Nat) (Q : Nat → ClassId) (σ : St) (ks nn : Int32) : XI l yX10_shelf cX10_shelf 4 .int ({ frames := 6, cells := 1, slots := 6, locals := 90 }) D cls (tyl Q) [.ref (G 0), .int ks, .int nn] (kw G Q) (kw G Q σ) (okA (aShelf σ ks nn)) (exA eNAS (aShelf σ ks nn)) 1 6 := by
  refine XI_of (by decide) (Nat.le_of_ble_eq_true rfl) ?_
  intro p e s m args below meth c A ls htab cx hw hl
  have hl : lv_has ls 4 [(0, .ref (G 0)), (1, .int ks), (2, .int nn)] := hl
  by_cases hv : okS ks
  · obtain ⟨k, hk, rfl⟩ := okS_k hv
    refine lv_aload_n cx.x cx.b dX10_shelf_0 rfl (lv_at hl 0 rfl) ?_
    refine lv_iload_n cx.x cx.b dX10_shelf_1 rfl (lv_at hl 1 rfl) ?_
    refine cgo_r cx hw (rV_r (q0 := 0) (n := 1) (As := [.int (nI k)]) (rest := []) cx hw (c_findShelf_s l D G Q σ k hk) (gd_V tw_278 tw_280 ts_1 tw_1 tw_281) rfl ⟨by decide +kernel, rfl, hl.1, (Nat.le_of_ble_eq_true rfl), ⟨(Nat.le_of_ble_eq_true rfl), (Nat.le_of_ble_eq_true rfl)⟩, ⟨(Nat.le_of_ble_eq_true rfl), (Nat.le_of_ble_eq_true rfl)⟩, rfl, rfl⟩ rfl (kw_h σ) rfl dX10_shelf_2) (fun r u H locs hp hw => ?_)
    obtain ⟨h8, h9⟩ := hp
    have h8 := h8.symm
    have h9 := h9.symm
    subst h8
    subst h9
    refine W.eq (g2 := F0 m 5 ls [.ref (G (5 + k))]) rfl ?_
    refine lv_astore_n (lv' := [(3, .ref (G (5 + k))), (0, .ref (G 0)), (1, .int (nI k)), (2, .int nn)]) cx.x cx.b dX10_shelf_5 rfl hl (by decide) rfl (fun ls hl => ?_)
    refine lv_aload_n cx.x cx.b dX10_shelf_6 rfl (lv_at hl 0 rfl) ?_
    refine lv_ifnull cx.x cx.b dX10_shelf_7 ?_
    refine lv_iload_n cx.x cx.b dX10_shelf_10 rfl (lv_at hl 3 rfl) ?_
    refine lv_bipush (v := 8) cx.x cx.b dX10_shelf_11 (by decide) ?_
    refine lv_icmp_le (tgt := 19) cx.x cx.b dX10_shelf_13 (by decide) (fun hb13 => ?_) (fun hb13 => ?_)
    · refine lv_iload_n cx.x cx.b dX10_shelf_19 rfl (lv_at hl 3 rfl) ?_
      refine lv_if_ge (tgt := 33) cx.x cx.b dX10_shelf_20 (by decide) (fun hb20 => ?_) (fun hb20 => ?_)
      · refine lv_aload_n cx.x cx.b dX10_shelf_33 rfl (lv_at hl 0 rfl) ?_
        refine lv_iload_n cx.x cx.b dX10_shelf_34 rfl (lv_at hl 3 rfl) ?_
        refine cgo_v cx hw (rV_v (q0 := (5 + k)) (n := 1) (As := [.int nn]) (rest := []) cx hw (c_X7_bringIn l D G Q σ k hk nn) (gd_V tw_565 tw_566 tw_567 tw_3 tw_568) rfl ⟨by decide +kernel, rfl, hl.1, (Nat.le_of_ble_eq_true rfl), ⟨(Nat.le_of_ble_eq_true rfl), (Nat.le_of_ble_eq_true rfl)⟩, ⟨(Nat.le_of_ble_eq_true rfl), (Nat.le_of_ble_eq_true rfl)⟩, rfl, rfl⟩ rfl (kw_s σ hk) rfl dX10_shelf_35) (fun u H locs hp hw => ?_)
        have hp := hp.symm
        subst hp
        refine lv_iload_n cx.x cx.b dX10_shelf_38 rfl (lv_at hl 3 rfl) ?_
        exact xret_i (clr k (sZ k nn σ) 8) cx hw (okA_of (by unfold aShelf; rw [if_pos ⟨hv, hb13⟩, if_neg (Int32.not_lt.mpr hb20), cl4 hk])) dX10_shelf_39 (Nat.le_of_ble_eq_true rfl) (Nat.le_of_ble_eq_true rfl)
      · exact thr_i σ hl0 htab cx hw (ok_NAS cx) hl.1 dX10_shelf_23 dX10_shelf_26 dX10_shelf_27 dX10_shelf_29 dX10_shelf_32 ⟨(Nat.le_of_ble_eq_true rfl), (Nat.le_of_ble_eq_true rfl), (Nat.le_of_ble_eq_true rfl), (Nat.le_of_ble_eq_true rfl)⟩ (exA_of (by unfold aShelf; rw [if_pos ⟨hv, hb13⟩, if_pos (Int32.not_le.mp hb20)]) ⟨rfl, rfl⟩) (Nat.le_of_ble_eq_true rfl) (Nat.le_of_ble_eq_true rfl)
    · refine lv_bipush (v := (-102)) cx.x cx.b dX10_shelf_16 (by decide) ?_
      exact xret_i σ cx hw (okA_of (by unfold aShelf; rw [if_neg (fun h => hb13 h.2)])) dX10_shelf_18 (Nat.le_of_ble_eq_true rfl) (Nat.le_of_ble_eq_true rfl)
  · have hs9 := okS_n hv
    refine lv_aload_n cx.x cx.b dX10_shelf_0 rfl (lv_at hl 0 rfl) ?_
    refine lv_iload_n cx.x cx.b dX10_shelf_1 rfl (lv_at hl 1 rfl) ?_
    refine cgo_r cx hw (rV_r (q0 := 0) (n := 1) (As := [.int ks]) (rest := []) cx hw (c_findShelf_n l D G Q σ ks hs9) (gd_V tw_278 tw_280 ts_1 tw_1 tw_281) rfl ⟨by decide +kernel, rfl, hl.1, (Nat.le_of_ble_eq_true rfl), ⟨(Nat.le_of_ble_eq_true rfl), (Nat.le_of_ble_eq_true rfl)⟩, ⟨(Nat.le_of_ble_eq_true rfl), (Nat.le_of_ble_eq_true rfl)⟩, rfl, rfl⟩ rfl (kw_h σ) rfl dX10_shelf_2) (fun r u H locs hp hw => ?_)
    obtain ⟨h8, h9⟩ := hp
    have h8 := h8.symm
    have h9 := h9.symm
    subst h8
    subst h9
    refine W.eq (g2 := F0 m 5 ls [.null]) rfl ?_
    refine lv_astore_nN (lv' := [(3, .null), (0, .ref (G 0)), (1, .int ks), (2, .int nn)]) cx.x cx.b dX10_shelf_5 rfl hl (by decide) rfl (fun ls hl => ?_)
    refine lv_aload_nN cx.x cx.b dX10_shelf_6 rfl (lv_at hl 0 rfl) ?_
    refine lv_ifnullN (tgt := 16) cx.x cx.b dX10_shelf_7 (by decide) ?_
    refine lv_bipush (v := (-102)) cx.x cx.b dX10_shelf_16 (by decide) ?_
    exact xret_i σ cx hw (okA_of (by unfold aShelf; rw [if_neg (fun h => hv h.1)])) dX10_shelf_18 (Nat.le_of_ble_eq_true rfl) (Nat.le_of_ble_eq_true rfl)
set_option maxHeartbeats 4000000 in
set_option maxRecDepth 100000 in
theorem c_X10_tell (l : Launch) (D : va_G) (G : Nat → Nat) (Q : Nat → ClassId) (σ : St) {b : Nat} (hI : Inv b σ) (lo wh : Int32) : MI l yX10_tell cX10_tell 4 .int ({ frames := 2, cells := 0, slots := 0, locals := 43 }) D cls (tyl Q) [.ref (G 0), .int lo, .int wh] (kw G Q) (kw G Q σ) (okA (aTell σ lo wh)) 0 0 := by
  refine MI_of (by decide) (Nat.le_of_ble_eq_true rfl) ?_
  intro p e s m args below meth c A ls cx hw hl
  have hl : lv_has ls 4 [(0, .ref (G 0)), (1, .int lo), (2, .int wh)] := hl
  have hN9 := hI.n
  by_cases hv : okL σ lo
  · obtain ⟨i, hn, rfl⟩ := okL_i hN9 hv
    have hd := hI.k hn
    by_cases w0 : wh = 0
    · subst w0
      refine lv_aload_n cx.x cx.b dX10_tell_0 rfl (lv_at hl 0 rfl) ?_
      refine lv_iload_n cx.x cx.b dX10_tell_1 rfl (lv_at hl 1 rfl) ?_
      refine cgo_r cx hw (rV_r (q0 := 0) (n := 1) (As := [.int (nI i)]) (rest := []) cx hw (c_findLoaf_s l D G Q σ hN9 i hn) (gd_V tw_294 tw_296 ts_2 tw_1 tw_297) rfl ⟨by decide +kernel, rfl, hl.1, (Nat.le_of_ble_eq_true rfl), ⟨(Nat.le_of_ble_eq_true rfl), (Nat.le_of_ble_eq_true rfl)⟩, ⟨(Nat.le_of_ble_eq_true rfl), (Nat.le_of_ble_eq_true rfl)⟩, rfl, rfl⟩ rfl (kw_h σ) rfl dX10_tell_2) (fun r u H locs hp hw => ?_)
      obtain ⟨h8, h9⟩ := hp
      have h8 := h8.symm
      have h9 := h9.symm
      subst h8
      subst h9
      refine W.eq (g2 := F0 m 5 ls [.ref (s_a σ i)]) rfl ?_
      refine lv_astore_n (lv' := [(3, .ref (s_a σ i)), (0, .ref (G 0)), (1, .int (nI i)), (2, .int 0)]) cx.x cx.b dX10_tell_5 rfl hl (by decide) rfl (fun ls hl => ?_)
      refine lv_aload_n cx.x cx.b dX10_tell_6 rfl (lv_at hl 0 rfl) ?_
      refine lv_ifnonnull (tgt := 13) cx.x cx.b dX10_tell_7 (by decide) ?_
      refine lv_iload_n cx.x cx.b dX10_tell_13 rfl (lv_at hl 3 rfl) ?_
      refine lv_tableIn (tgt := 52) cx.x cx.b dX10_tell_14 (by decide) (by decide) rfl (by decide) ?_
      refine lv_aload_n cx.x cx.b dX10_tell_52 rfl (lv_at hl 0 rfl) ?_
      refine gt_f (v := .int (nI (s_k σ i))) cx hw (13 + i) (kw_d σ hn) (cls_d hd) (inD_all _ hd) 2 (by decide) tw_133 ⟨rfl, rfl, Or.inl rfl⟩ rfl dX10_tell_53 ?_
      exact ret_i σ cx hw (okA_of (by unfold aTell; rw [if_pos hv, cl20 hN9 hn, if_pos rfl])) dX10_tell_56 (Nat.le_of_ble_eq_true rfl) (Nat.le_of_ble_eq_true rfl)
    · by_cases w1 : wh = 1
      · subst w1
        refine lv_aload_n cx.x cx.b dX10_tell_0 rfl (lv_at hl 0 rfl) ?_
        refine lv_iload_n cx.x cx.b dX10_tell_1 rfl (lv_at hl 1 rfl) ?_
        refine cgo_r cx hw (rV_r (q0 := 0) (n := 1) (As := [.int (nI i)]) (rest := []) cx hw (c_findLoaf_s l D G Q σ hN9 i hn) (gd_V tw_294 tw_296 ts_2 tw_1 tw_297) rfl ⟨by decide +kernel, rfl, hl.1, (Nat.le_of_ble_eq_true rfl), ⟨(Nat.le_of_ble_eq_true rfl), (Nat.le_of_ble_eq_true rfl)⟩, ⟨(Nat.le_of_ble_eq_true rfl), (Nat.le_of_ble_eq_true rfl)⟩, rfl, rfl⟩ rfl (kw_h σ) rfl dX10_tell_2) (fun r u H locs hp hw => ?_)
        obtain ⟨h8, h9⟩ := hp
        have h8 := h8.symm
        have h9 := h9.symm
        subst h8
        subst h9
        refine W.eq (g2 := F0 m 5 ls [.ref (s_a σ i)]) rfl ?_
        refine lv_astore_n (lv' := [(3, .ref (s_a σ i)), (0, .ref (G 0)), (1, .int (nI i)), (2, .int 1)]) cx.x cx.b dX10_tell_5 rfl hl (by decide) rfl (fun ls hl => ?_)
        refine lv_aload_n cx.x cx.b dX10_tell_6 rfl (lv_at hl 0 rfl) ?_
        refine lv_ifnonnull (tgt := 13) cx.x cx.b dX10_tell_7 (by decide) ?_
        refine lv_iload_n cx.x cx.b dX10_tell_13 rfl (lv_at hl 3 rfl) ?_
        refine lv_tableIn (tgt := 57) cx.x cx.b dX10_tell_14 (by decide) (by decide) rfl (by decide) ?_
        refine lv_aload_n cx.x cx.b dX10_tell_57 rfl (lv_at hl 0 rfl) ?_
        refine gt_f (v := .int (s_F σ 3 i)) cx hw (13 + i) (kw_d σ hn) (cls_d hd) (inD_all _ hd) 3 (by decide) tw_135 ⟨rfl, rfl, Or.inl rfl⟩ rfl dX10_tell_58 ?_
        exact ret_i σ cx hw (okA_of (by unfold aTell; rw [if_pos hv, cl20 hN9 hn, if_neg (by decide : ¬ (1 : Int32) = 0), if_pos rfl])) dX10_tell_61 (Nat.le_of_ble_eq_true rfl) (Nat.le_of_ble_eq_true rfl)
      · by_cases w2 : wh = 2
        · subst w2
          refine lv_aload_n cx.x cx.b dX10_tell_0 rfl (lv_at hl 0 rfl) ?_
          refine lv_iload_n cx.x cx.b dX10_tell_1 rfl (lv_at hl 1 rfl) ?_
          refine cgo_r cx hw (rV_r (q0 := 0) (n := 1) (As := [.int (nI i)]) (rest := []) cx hw (c_findLoaf_s l D G Q σ hN9 i hn) (gd_V tw_294 tw_296 ts_2 tw_1 tw_297) rfl ⟨by decide +kernel, rfl, hl.1, (Nat.le_of_ble_eq_true rfl), ⟨(Nat.le_of_ble_eq_true rfl), (Nat.le_of_ble_eq_true rfl)⟩, ⟨(Nat.le_of_ble_eq_true rfl), (Nat.le_of_ble_eq_true rfl)⟩, rfl, rfl⟩ rfl (kw_h σ) rfl dX10_tell_2) (fun r u H locs hp hw => ?_)
          obtain ⟨h8, h9⟩ := hp
          have h8 := h8.symm
          have h9 := h9.symm
          subst h8
          subst h9
          refine W.eq (g2 := F0 m 5 ls [.ref (s_a σ i)]) rfl ?_
          refine lv_astore_n (lv' := [(3, .ref (s_a σ i)), (0, .ref (G 0)), (1, .int (nI i)), (2, .int 2)]) cx.x cx.b dX10_tell_5 rfl hl (by decide) rfl (fun ls hl => ?_)
          refine lv_aload_n cx.x cx.b dX10_tell_6 rfl (lv_at hl 0 rfl) ?_
          refine lv_ifnonnull (tgt := 13) cx.x cx.b dX10_tell_7 (by decide) ?_
          refine lv_iload_n cx.x cx.b dX10_tell_13 rfl (lv_at hl 3 rfl) ?_
          refine lv_tableIn (tgt := 62) cx.x cx.b dX10_tell_14 (by decide) (by decide) rfl (by decide) ?_
          refine lv_aload_n cx.x cx.b dX10_tell_62 rfl (lv_at hl 0 rfl) ?_
          refine gt_f (v := .int (s_F σ 4 i)) cx hw (13 + i) (kw_d σ hn) (cls_d hd) (inD_all _ hd) 4 (by decide) tw_139 ⟨rfl, rfl, Or.inl rfl⟩ rfl dX10_tell_63 ?_
          exact ret_i σ cx hw (okA_of (by unfold aTell; rw [if_pos hv, cl20 hN9 hn, if_neg (by decide : ¬ (2 : Int32) = 0), if_neg (by decide : ¬ (2 : Int32) = 1), if_pos rfl])) dX10_tell_66 (Nat.le_of_ble_eq_true rfl) (Nat.le_of_ble_eq_true rfl)
        · by_cases w3 : wh = 3
          · subst w3
            refine lv_aload_n cx.x cx.b dX10_tell_0 rfl (lv_at hl 0 rfl) ?_
            refine lv_iload_n cx.x cx.b dX10_tell_1 rfl (lv_at hl 1 rfl) ?_
            refine cgo_r cx hw (rV_r (q0 := 0) (n := 1) (As := [.int (nI i)]) (rest := []) cx hw (c_findLoaf_s l D G Q σ hN9 i hn) (gd_V tw_294 tw_296 ts_2 tw_1 tw_297) rfl ⟨by decide +kernel, rfl, hl.1, (Nat.le_of_ble_eq_true rfl), ⟨(Nat.le_of_ble_eq_true rfl), (Nat.le_of_ble_eq_true rfl)⟩, ⟨(Nat.le_of_ble_eq_true rfl), (Nat.le_of_ble_eq_true rfl)⟩, rfl, rfl⟩ rfl (kw_h σ) rfl dX10_tell_2) (fun r u H locs hp hw => ?_)
            obtain ⟨h8, h9⟩ := hp
            have h8 := h8.symm
            have h9 := h9.symm
            subst h8
            subst h9
            refine W.eq (g2 := F0 m 5 ls [.ref (s_a σ i)]) rfl ?_
            refine lv_astore_n (lv' := [(3, .ref (s_a σ i)), (0, .ref (G 0)), (1, .int (nI i)), (2, .int 3)]) cx.x cx.b dX10_tell_5 rfl hl (by decide) rfl (fun ls hl => ?_)
            refine lv_aload_n cx.x cx.b dX10_tell_6 rfl (lv_at hl 0 rfl) ?_
            refine lv_ifnonnull (tgt := 13) cx.x cx.b dX10_tell_7 (by decide) ?_
            refine lv_iload_n cx.x cx.b dX10_tell_13 rfl (lv_at hl 3 rfl) ?_
            refine lv_tableIn (tgt := 67) cx.x cx.b dX10_tell_14 (by decide) (by decide) rfl (by decide) ?_
            refine lv_aload_n cx.x cx.b dX10_tell_67 rfl (lv_at hl 0 rfl) ?_
            refine gt_f (v := .int (s_F σ 5 i)) cx hw (13 + i) (kw_d σ hn) (cls_d hd) (inD_all _ hd) 5 (by decide) tw_143 ⟨rfl, rfl, Or.inl rfl⟩ rfl dX10_tell_68 ?_
            exact ret_i σ cx hw (okA_of (by unfold aTell; rw [if_pos hv, cl20 hN9 hn, if_neg (by decide : ¬ (3 : Int32) = 0), if_neg (by decide : ¬ (3 : Int32) = 1), if_neg (by decide : ¬ (3 : Int32) = 2), if_pos rfl])) dX10_tell_71 (Nat.le_of_ble_eq_true rfl) (Nat.le_of_ble_eq_true rfl)
          · by_cases w4 : wh = 4
            · subst w4
              refine lv_aload_n cx.x cx.b dX10_tell_0 rfl (lv_at hl 0 rfl) ?_
              refine lv_iload_n cx.x cx.b dX10_tell_1 rfl (lv_at hl 1 rfl) ?_
              refine cgo_r cx hw (rV_r (q0 := 0) (n := 1) (As := [.int (nI i)]) (rest := []) cx hw (c_findLoaf_s l D G Q σ hN9 i hn) (gd_V tw_294 tw_296 ts_2 tw_1 tw_297) rfl ⟨by decide +kernel, rfl, hl.1, (Nat.le_of_ble_eq_true rfl), ⟨(Nat.le_of_ble_eq_true rfl), (Nat.le_of_ble_eq_true rfl)⟩, ⟨(Nat.le_of_ble_eq_true rfl), (Nat.le_of_ble_eq_true rfl)⟩, rfl, rfl⟩ rfl (kw_h σ) rfl dX10_tell_2) (fun r u H locs hp hw => ?_)
              obtain ⟨h8, h9⟩ := hp
              have h8 := h8.symm
              have h9 := h9.symm
              subst h8
              subst h9
              refine W.eq (g2 := F0 m 5 ls [.ref (s_a σ i)]) rfl ?_
              refine lv_astore_n (lv' := [(3, .ref (s_a σ i)), (0, .ref (G 0)), (1, .int (nI i)), (2, .int 4)]) cx.x cx.b dX10_tell_5 rfl hl (by decide) rfl (fun ls hl => ?_)
              refine lv_aload_n cx.x cx.b dX10_tell_6 rfl (lv_at hl 0 rfl) ?_
              refine lv_ifnonnull (tgt := 13) cx.x cx.b dX10_tell_7 (by decide) ?_
              refine lv_iload_n cx.x cx.b dX10_tell_13 rfl (lv_at hl 3 rfl) ?_
              refine lv_tableIn (tgt := 72) cx.x cx.b dX10_tell_14 (by decide) (by decide) rfl (by decide) ?_
              refine lv_aload_n cx.x cx.b dX10_tell_72 rfl (lv_at hl 0 rfl) ?_
              refine gt_f (v := .int (s_F σ 6 i)) cx hw (13 + i) (kw_d σ hn) (cls_d hd) (inD_all _ hd) 6 (by decide) tw_149 ⟨rfl, rfl, Or.inl rfl⟩ rfl dX10_tell_73 ?_
              exact ret_i σ cx hw (okA_of (by unfold aTell; rw [if_pos hv, cl20 hN9 hn, if_neg (by decide : ¬ (4 : Int32) = 0), if_neg (by decide : ¬ (4 : Int32) = 1), if_neg (by decide : ¬ (4 : Int32) = 2), if_neg (by decide : ¬ (4 : Int32) = 3), if_pos rfl])) dX10_tell_76 (Nat.le_of_ble_eq_true rfl) (Nat.le_of_ble_eq_true rfl)
            · by_cases w5 : wh = 5
              · subst w5
                refine lv_aload_n cx.x cx.b dX10_tell_0 rfl (lv_at hl 0 rfl) ?_
                refine lv_iload_n cx.x cx.b dX10_tell_1 rfl (lv_at hl 1 rfl) ?_
                refine cgo_r cx hw (rV_r (q0 := 0) (n := 1) (As := [.int (nI i)]) (rest := []) cx hw (c_findLoaf_s l D G Q σ hN9 i hn) (gd_V tw_294 tw_296 ts_2 tw_1 tw_297) rfl ⟨by decide +kernel, rfl, hl.1, (Nat.le_of_ble_eq_true rfl), ⟨(Nat.le_of_ble_eq_true rfl), (Nat.le_of_ble_eq_true rfl)⟩, ⟨(Nat.le_of_ble_eq_true rfl), (Nat.le_of_ble_eq_true rfl)⟩, rfl, rfl⟩ rfl (kw_h σ) rfl dX10_tell_2) (fun r u H locs hp hw => ?_)
                obtain ⟨h8, h9⟩ := hp
                have h8 := h8.symm
                have h9 := h9.symm
                subst h8
                subst h9
                refine W.eq (g2 := F0 m 5 ls [.ref (s_a σ i)]) rfl ?_
                refine lv_astore_n (lv' := [(3, .ref (s_a σ i)), (0, .ref (G 0)), (1, .int (nI i)), (2, .int 5)]) cx.x cx.b dX10_tell_5 rfl hl (by decide) rfl (fun ls hl => ?_)
                refine lv_aload_n cx.x cx.b dX10_tell_6 rfl (lv_at hl 0 rfl) ?_
                refine lv_ifnonnull (tgt := 13) cx.x cx.b dX10_tell_7 (by decide) ?_
                refine lv_iload_n cx.x cx.b dX10_tell_13 rfl (lv_at hl 3 rfl) ?_
                refine lv_tableIn (tgt := 77) cx.x cx.b dX10_tell_14 (by decide) (by decide) rfl (by decide) ?_
                refine lv_aload_n cx.x cx.b dX10_tell_77 rfl (lv_at hl 0 rfl) ?_
                refine gt_f (v := .int (s_F σ 7 i)) cx hw (13 + i) (kw_d σ hn) (cls_d hd) (inD_all _ hd) 7 (by decide) tw_155 ⟨rfl, rfl, Or.inl rfl⟩ rfl dX10_tell_78 ?_
                exact ret_i σ cx hw (okA_of (by unfold aTell; rw [if_pos hv, cl20 hN9 hn, if_neg (by decide : ¬ (5 : Int32) = 0), if_neg (by decide : ¬ (5 : Int32) = 1), if_neg (by decide : ¬ (5 : Int32) = 2), if_neg (by decide : ¬ (5 : Int32) = 3), if_neg (by decide : ¬ (5 : Int32) = 4), if_pos rfl])) dX10_tell_81 (Nat.le_of_ble_eq_true rfl) (Nat.le_of_ble_eq_true rfl)
              · refine lv_aload_n cx.x cx.b dX10_tell_0 rfl (lv_at hl 0 rfl) ?_
                refine lv_iload_n cx.x cx.b dX10_tell_1 rfl (lv_at hl 1 rfl) ?_
                refine cgo_r cx hw (rV_r (q0 := 0) (n := 1) (As := [.int (nI i)]) (rest := []) cx hw (c_findLoaf_s l D G Q σ hN9 i hn) (gd_V tw_294 tw_296 ts_2 tw_1 tw_297) rfl ⟨by decide +kernel, rfl, hl.1, (Nat.le_of_ble_eq_true rfl), ⟨(Nat.le_of_ble_eq_true rfl), (Nat.le_of_ble_eq_true rfl)⟩, ⟨(Nat.le_of_ble_eq_true rfl), (Nat.le_of_ble_eq_true rfl)⟩, rfl, rfl⟩ rfl (kw_h σ) rfl dX10_tell_2) (fun r u H locs hp hw => ?_)
                obtain ⟨h8, h9⟩ := hp
                have h8 := h8.symm
                have h9 := h9.symm
                subst h8
                subst h9
                refine W.eq (g2 := F0 m 5 ls [.ref (s_a σ i)]) rfl ?_
                refine lv_astore_n (lv' := [(3, .ref (s_a σ i)), (0, .ref (G 0)), (1, .int (nI i)), (2, .int wh)]) cx.x cx.b dX10_tell_5 rfl hl (by decide) rfl (fun ls hl => ?_)
                refine lv_aload_n cx.x cx.b dX10_tell_6 rfl (lv_at hl 0 rfl) ?_
                refine lv_ifnonnull (tgt := 13) cx.x cx.b dX10_tell_7 (by decide) ?_
                refine lv_iload_n cx.x cx.b dX10_tell_13 rfl (lv_at hl 3 rfl) ?_
                refine lv_tableOut (tgt := 82) cx.x cx.b dX10_tell_14 (sw_o5 w0 w1 w2 w3 w4 w5) (by decide) ?_
                refine lv_bipush (v := (-102)) cx.x cx.b dX10_tell_82 (by decide) ?_
                exact ret_i σ cx hw (okA_of (by unfold aTell; rw [if_pos hv, cl20 hN9 hn, if_neg w0, if_neg w1, if_neg w2, if_neg w3, if_neg w4, if_neg w5])) dX10_tell_84 (Nat.le_of_ble_eq_true rfl) (Nat.le_of_ble_eq_true rfl)
  · have hv9 := okL_n hN9 hv
    refine lv_aload_n cx.x cx.b dX10_tell_0 rfl (lv_at hl 0 rfl) ?_
    refine lv_iload_n cx.x cx.b dX10_tell_1 rfl (lv_at hl 1 rfl) ?_
    refine cgo_r cx hw (rV_r (q0 := 0) (n := 1) (As := [.int lo]) (rest := []) cx hw (c_findLoaf_n l D G Q σ hN9 lo hv9) (gd_V tw_294 tw_296 ts_2 tw_1 tw_297) rfl ⟨by decide +kernel, rfl, hl.1, (Nat.le_of_ble_eq_true rfl), ⟨(Nat.le_of_ble_eq_true rfl), (Nat.le_of_ble_eq_true rfl)⟩, ⟨(Nat.le_of_ble_eq_true rfl), (Nat.le_of_ble_eq_true rfl)⟩, rfl, rfl⟩ rfl (kw_h σ) rfl dX10_tell_2) (fun r u H locs hp hw => ?_)
    obtain ⟨h8, h9⟩ := hp
    have h8 := h8.symm
    have h9 := h9.symm
    subst h8
    subst h9
    refine W.eq (g2 := F0 m 5 ls [.null]) rfl ?_
    refine lv_astore_nN (lv' := [(3, .null), (0, .ref (G 0)), (1, .int lo), (2, .int wh)]) cx.x cx.b dX10_tell_5 rfl hl (by decide) rfl (fun ls hl => ?_)
    refine lv_aload_nN cx.x cx.b dX10_tell_6 rfl (lv_at hl 0 rfl) ?_
    refine lv_ifnonnullN cx.x cx.b dX10_tell_7 ?_
    refine lv_bipush (v := (-101)) cx.x cx.b dX10_tell_10 (by decide) ?_
    exact ret_i σ cx hw (okA_of (by unfold aTell; rw [if_neg hv])) dX10_tell_12 (Nat.le_of_ble_eq_true rfl) (Nat.le_of_ble_eq_true rfl)
set_option maxHeartbeats 4000000 in
set_option maxRecDepth 100000 in
theorem c_X10_count (l : Launch) (D : va_G) (G : Nat → Nat) (Q : Nat → ClassId) (σ : St) (wh : Int32) : MI l yX10_count cX10_count 2 .int ({ frames := 0, cells := 0, slots := 0, locals := 0 }) D cls (tyl Q) [.ref (G 0), .int wh] (kw G Q) (kw G Q σ) (okA (aCount σ wh)) 0 0 := by
  refine MI_of (by decide) (Nat.le_of_ble_eq_true rfl) ?_
  intro p e s m args below meth c A ls cx hw hl
  have hl : lv_has ls 2 [(0, .ref (G 0)), (1, .int wh)] := hl
  by_cases w0 : wh = 0
  · subst w0
    refine lv_iload_n cx.x cx.b dX10_count_0 rfl (lv_at hl 1 rfl) ?_
    refine lv_tableIn (tgt := 36) cx.x cx.b dX10_count_1 (by decide) (by decide) rfl (by decide) ?_
    refine lv_aload_n cx.x cx.b dX10_count_36 rfl (lv_at hl 0 rfl) ?_
    refine gt_f (v := .int (nI (s_n σ))) cx hw 0 (kw_h σ) rfl inX10 3 (by decide) tw_88 ⟨rfl, rfl, Or.inl rfl⟩ rfl dX10_count_37 ?_
    exact ret_i σ cx hw (okA_of (by unfold aCount; rw [if_pos rfl])) dX10_count_40 (Nat.le_of_ble_eq_true rfl) (Nat.le_of_ble_eq_true rfl)
  · by_cases w1 : wh = 1
    · subst w1
      refine lv_iload_n cx.x cx.b dX10_count_0 rfl (lv_at hl 1 rfl) ?_
      refine lv_tableIn (tgt := 41) cx.x cx.b dX10_count_1 (by decide) (by decide) rfl (by decide) ?_
      refine lv_aload_n cx.x cx.b dX10_count_41 rfl (lv_at hl 0 rfl) ?_
      refine gt_f (v := .ref (G 1)) cx hw 0 (kw_h σ) rfl inX10 0 (by decide) tw_85 ⟨rfl, rfl, Or.inl rfl⟩ rfl dX10_count_42 ?_
      refine gt_f (v := .int (nI (s_N σ))) cx hw 1 (kw_b σ) rfl inX0 3 (by decide) tw_42 ⟨rfl, rfl, Or.inl rfl⟩ rfl dX10_count_45 ?_
      exact ret_i σ cx hw (okA_of (by unfold aCount; rw [if_neg (by decide : ¬ (1 : Int32) = 0), if_pos rfl])) dX10_count_48 (Nat.le_of_ble_eq_true rfl) (Nat.le_of_ble_eq_true rfl)
    · by_cases w2 : wh = 2
      · subst w2
        refine lv_iload_n cx.x cx.b dX10_count_0 rfl (lv_at hl 1 rfl) ?_
        refine lv_tableIn (tgt := 49) cx.x cx.b dX10_count_1 (by decide) (by decide) rfl (by decide) ?_
        refine lv_aload_n cx.x cx.b dX10_count_49 rfl (lv_at hl 0 rfl) ?_
        refine gt_f (v := .ref (G 1)) cx hw 0 (kw_h σ) rfl inX10 0 (by decide) tw_85 ⟨rfl, rfl, Or.inl rfl⟩ rfl dX10_count_50 ?_
        refine gt_f (v := .int (s_c σ 4)) cx hw 1 (kw_b σ) rfl inX0 4 (by decide) tw_45 ⟨rfl, rfl, Or.inl rfl⟩ rfl dX10_count_53 ?_
        exact ret_i σ cx hw (okA_of (by unfold aCount; rw [if_neg (by decide : ¬ (2 : Int32) = 0), if_neg (by decide : ¬ (2 : Int32) = 1), if_pos rfl])) dX10_count_56 (Nat.le_of_ble_eq_true rfl) (Nat.le_of_ble_eq_true rfl)
      · by_cases w3 : wh = 3
        · subst w3
          refine lv_iload_n cx.x cx.b dX10_count_0 rfl (lv_at hl 1 rfl) ?_
          refine lv_tableIn (tgt := 57) cx.x cx.b dX10_count_1 (by decide) (by decide) rfl (by decide) ?_
          refine lv_aload_n cx.x cx.b dX10_count_57 rfl (lv_at hl 0 rfl) ?_
          refine gt_f (v := .ref (G 1)) cx hw 0 (kw_h σ) rfl inX10 0 (by decide) tw_85 ⟨rfl, rfl, Or.inl rfl⟩ rfl dX10_count_58 ?_
          refine gt_f (v := .int (s_c σ 5)) cx hw 1 (kw_b σ) rfl inX0 5 (by decide) tw_48 ⟨rfl, rfl, Or.inl rfl⟩ rfl dX10_count_61 ?_
          exact ret_i σ cx hw (okA_of (by unfold aCount; rw [if_neg (by decide : ¬ (3 : Int32) = 0), if_neg (by decide : ¬ (3 : Int32) = 1), if_neg (by decide : ¬ (3 : Int32) = 2), if_pos rfl])) dX10_count_64 (Nat.le_of_ble_eq_true rfl) (Nat.le_of_ble_eq_true rfl)
        · by_cases w4 : wh = 4
          · subst w4
            refine lv_iload_n cx.x cx.b dX10_count_0 rfl (lv_at hl 1 rfl) ?_
            refine lv_tableIn (tgt := 65) cx.x cx.b dX10_count_1 (by decide) (by decide) rfl (by decide) ?_
            refine lv_aload_n cx.x cx.b dX10_count_65 rfl (lv_at hl 0 rfl) ?_
            refine gt_f (v := .ref (G 1)) cx hw 0 (kw_h σ) rfl inX10 0 (by decide) tw_85 ⟨rfl, rfl, Or.inl rfl⟩ rfl dX10_count_66 ?_
            refine gt_f (v := .int (s_c σ 6)) cx hw 1 (kw_b σ) rfl inX0 6 (by decide) tw_51 ⟨rfl, rfl, Or.inl rfl⟩ rfl dX10_count_69 ?_
            exact ret_i σ cx hw (okA_of (by unfold aCount; rw [if_neg (by decide : ¬ (4 : Int32) = 0), if_neg (by decide : ¬ (4 : Int32) = 1), if_neg (by decide : ¬ (4 : Int32) = 2), if_neg (by decide : ¬ (4 : Int32) = 3), if_pos rfl])) dX10_count_72 (Nat.le_of_ble_eq_true rfl) (Nat.le_of_ble_eq_true rfl)
          · refine lv_iload_n cx.x cx.b dX10_count_0 rfl (lv_at hl 1 rfl) ?_
            refine lv_tableOut (tgt := 73) cx.x cx.b dX10_count_1 (sw_o4 w0 w1 w2 w3 w4) (by decide) ?_
            refine lv_bipush (v := (-102)) cx.x cx.b dX10_count_73 (by decide) ?_
            exact ret_i σ cx hw (okA_of (by unfold aCount; rw [if_neg w0, if_neg w1, if_neg w2, if_neg w3, if_neg w4])) dX10_count_75 (Nat.le_of_ble_eq_true rfl) (Nat.le_of_ble_eq_true rfl)
set_option maxHeartbeats 4000000 in
set_option maxRecDepth 100000 in
theorem c_X0_row (l : Launch) (D : va_G) (G : Nat → Nat) (Q : Nat → ClassId) (σ : St) (ix : Int32) : MI l yX0_row cX0_row 3 .int ({ frames := 1, cells := 0, slots := 0, locals := 22 }) D cls (tyl Q) [.ref (G 1), .int ix] (kw G Q) (kw G Q σ) (okA (aBook σ ix)) 0 0 := by
  refine MI_of (by decide) (Nat.le_of_ble_eq_true rfl) ?_
  intro p e s m args below meth c A ls cx hw hl
  have hl : lv_has ls 3 [(0, .ref (G 1)), (1, .int ix)] := hl
  by_cases hv : 0 ≤ ix ∧ ix < kp (s_N σ)
  · obtain ⟨t, ht, rfl⟩ := kp_i hv
    by_cases hq : t ≤ (s_N σ - 1) % 100
    · have hr := row_a ht hq
      refine lv_iload_n cx.x cx.b dX0_row_0 rfl (lv_at hl 1 rfl) ?_
      refine lv_if_lt (tgt := 12) cx.x cx.b dX0_row_1 (by decide) (fun hb1 => absurd hb1 (nI_pos (by omega))) (fun hb1 => ?_)
      refine lv_iload_n cx.x cx.b dX0_row_4 rfl (lv_at hl 1 rfl) ?_
      refine lv_aload_n cx.x cx.b dX0_row_5 rfl (lv_at hl 0 rfl) ?_
      refine gt_f (v := .int (kp (s_N σ))) cx hw 1 (kw_b σ) rfl inX0 2 (by decide) tw_40 ⟨rfl, rfl, Or.inl rfl⟩ rfl dX0_row_6 ?_
      refine lv_icmp_lt (tgt := 14) cx.x cx.b dX0_row_9 (by decide) (fun hb9 => ?_) (fun hb9 => absurd hv.2 hb9)
      refine lv_aload_n cx.x cx.b dX0_row_14 rfl (lv_at hl 0 rfl) ?_
      refine gt_f (v := .int (nx (s_N σ))) cx hw 1 (kw_b σ) rfl inX0 1 (by decide) tw_39 ⟨rfl, rfl, Or.inl rfl⟩ rfl dX0_row_15 ?_
      refine lv_iconst (v := 1) cx.x cx.b dX0_row_18 (by decide) ?_
      refine lv_isub cx.x cx.b dX0_row_19 ?_
      refine lv_iload_n cx.x cx.b dX0_row_20 rfl (lv_at hl 1 rfl) ?_
      refine lv_isub cx.x cx.b dX0_row_21 ?_
      refine lv_istore_n (lv' := [(2, .int (((nx (s_N σ)) - 1) - (nI t))), (0, .ref (G 1)), (1, .int (nI t))]) cx.x cx.b dX0_row_22 rfl hl (by decide) rfl (fun ls hl => ?_)
      refine lv_iload_n cx.x cx.b dX0_row_23 rfl (lv_at hl 0 rfl) ?_
      refine lv_if_ge (tgt := 30) cx.x cx.b dX0_row_24 (by decide) (fun hb24 => ?_) (fun hb24 => absurd (by rw [hr]; exact nI_pos' (by omega)) hb24)
      refine lv_iload_n cx.x cx.b dX0_row_30 rfl (lv_at hl 0 rfl) ?_
      refine lv_iconst (v := 0) cx.x cx.b dX0_row_31 (by decide) ?_
      refine lv_bipush (v := 99) cx.x cx.b dX0_row_32 (by decide) ?_
      refine cgo_i cx hw (rSN_i (host := "BakeHouse") (n := 3) (As := [.int (((nx (s_N σ)) - 1) - (nI t)), .int 0, .int 99]) (rest := []) cx hw (c_X10_within l D G Q σ (((nx (s_N σ)) - 1) - (nI t)) 0 99) (by decide +kernel) tw_103 tw_1 tw_104 ⟨by decide +kernel, rfl, hl.1, (Nat.le_of_ble_eq_true rfl), ⟨(Nat.le_of_ble_eq_true rfl), (Nat.le_of_ble_eq_true rfl)⟩, ⟨(Nat.le_of_ble_eq_true rfl), (Nat.le_of_ble_eq_true rfl)⟩, rfl, rfl⟩ rfl dX0_row_34) (fun r u H locs hp hw => ?_)
      obtain ⟨h8, h9⟩ := hp
      have h8 := h8.symm
      have h9 := h9.symm
      subst h8
      subst h9
      refine lv_if_eq (tgt := 49) cx.x cx.b dX0_row_37 (by decide) (fun hb37 => absurd hb37 (by rw [hr]; exact wth_nI (a := 0) (b := 99) (Nat.zero_le _) (by omega) (by decide))) (fun hb37 => ?_)
      refine lv_aload_n cx.x cx.b dX0_row_40 rfl (lv_at hl 1 rfl) ?_
      refine gt_f (v := .ref (G 2)) cx hw 1 (kw_b σ) rfl inX0 0 (by decide) tw_38 ⟨rfl, rfl, Or.inl rfl⟩ rfl dX0_row_41 ?_
      refine lv_iload_n cx.x cx.b dX0_row_44 rfl (lv_at hl 0 rfl) ?_
      refine ald_i (f := s_g σ) cx hw 2 0 rfl rfl ((s_N σ - 1 - t) % 100) hr (Nat.mod_lt _ (by decide)) (by decide) dX0_row_45 ?_
      refine lv_goto (tgt := 50) cx.x cx.b dX0_row_46 (by decide) ?_
      exact ret_i σ cx hw (okA_of (by unfold aBook; rw [if_pos hv, nI_clamp (by omega)])) dX0_row_50 (Nat.le_of_ble_eq_true rfl) (Nat.le_of_ble_eq_true rfl)
    · obtain ⟨hr0, hr⟩ := row_b ht hq
      refine lv_iload_n cx.x cx.b dX0_row_0 rfl (lv_at hl 1 rfl) ?_
      refine lv_if_lt (tgt := 12) cx.x cx.b dX0_row_1 (by decide) (fun hb1 => absurd hb1 (nI_pos (by omega))) (fun hb1 => ?_)
      refine lv_iload_n cx.x cx.b dX0_row_4 rfl (lv_at hl 1 rfl) ?_
      refine lv_aload_n cx.x cx.b dX0_row_5 rfl (lv_at hl 0 rfl) ?_
      refine gt_f (v := .int (kp (s_N σ))) cx hw 1 (kw_b σ) rfl inX0 2 (by decide) tw_40 ⟨rfl, rfl, Or.inl rfl⟩ rfl dX0_row_6 ?_
      refine lv_icmp_lt (tgt := 14) cx.x cx.b dX0_row_9 (by decide) (fun hb9 => ?_) (fun hb9 => absurd hv.2 hb9)
      refine lv_aload_n cx.x cx.b dX0_row_14 rfl (lv_at hl 0 rfl) ?_
      refine gt_f (v := .int (nx (s_N σ))) cx hw 1 (kw_b σ) rfl inX0 1 (by decide) tw_39 ⟨rfl, rfl, Or.inl rfl⟩ rfl dX0_row_15 ?_
      refine lv_iconst (v := 1) cx.x cx.b dX0_row_18 (by decide) ?_
      refine lv_isub cx.x cx.b dX0_row_19 ?_
      refine lv_iload_n cx.x cx.b dX0_row_20 rfl (lv_at hl 1 rfl) ?_
      refine lv_isub cx.x cx.b dX0_row_21 ?_
      refine lv_istore_n (lv' := [(2, .int (((nx (s_N σ)) - 1) - (nI t))), (0, .ref (G 1)), (1, .int (nI t))]) cx.x cx.b dX0_row_22 rfl hl (by decide) rfl (fun ls hl => ?_)
      refine lv_iload_n cx.x cx.b dX0_row_23 rfl (lv_at hl 0 rfl) ?_
      refine lv_if_ge (tgt := 30) cx.x cx.b dX0_row_24 (by decide) (fun hb24 => absurd hr0 (Int32.not_lt.mpr hb24)) (fun hb24 => ?_)
      refine lv_iinc (v := ((((nx (s_N σ)) - 1) - (nI t)) + 100)) (lv' := [(2, .int ((((nx (s_N σ)) - 1) - (nI t)) + 100)), (0, .ref (G 1)), (1, .int (nI t))]) cx.x cx.b dX0_row_27 hl (k := 0) rfl rfl (by decide) rfl (fun ls hl => ?_)
      refine lv_iload_n cx.x cx.b dX0_row_30 rfl (lv_at hl 0 rfl) ?_
      refine lv_iconst (v := 0) cx.x cx.b dX0_row_31 (by decide) ?_
      refine lv_bipush (v := 99) cx.x cx.b dX0_row_32 (by decide) ?_
      refine cgo_i cx hw (rSN_i (host := "BakeHouse") (n := 3) (As := [.int ((((nx (s_N σ)) - 1) - (nI t)) + 100), .int 0, .int 99]) (rest := []) cx hw (c_X10_within l D G Q σ ((((nx (s_N σ)) - 1) - (nI t)) + 100) 0 99) (by decide +kernel) tw_103 tw_1 tw_104 ⟨by decide +kernel, rfl, hl.1, (Nat.le_of_ble_eq_true rfl), ⟨(Nat.le_of_ble_eq_true rfl), (Nat.le_of_ble_eq_true rfl)⟩, ⟨(Nat.le_of_ble_eq_true rfl), (Nat.le_of_ble_eq_true rfl)⟩, rfl, rfl⟩ rfl dX0_row_34) (fun r u H locs hp hw => ?_)
      obtain ⟨h8, h9⟩ := hp
      have h8 := h8.symm
      have h9 := h9.symm
      subst h8
      subst h9
      refine lv_if_eq (tgt := 49) cx.x cx.b dX0_row_37 (by decide) (fun hb37 => absurd hb37 (by rw [hr]; exact wth_nI (a := 0) (b := 99) (Nat.zero_le _) (by omega) (by decide))) (fun hb37 => ?_)
      refine lv_aload_n cx.x cx.b dX0_row_40 rfl (lv_at hl 1 rfl) ?_
      refine gt_f (v := .ref (G 2)) cx hw 1 (kw_b σ) rfl inX0 0 (by decide) tw_38 ⟨rfl, rfl, Or.inl rfl⟩ rfl dX0_row_41 ?_
      refine lv_iload_n cx.x cx.b dX0_row_44 rfl (lv_at hl 0 rfl) ?_
      refine ald_i (f := s_g σ) cx hw 2 0 rfl rfl ((s_N σ - 1 - t) % 100) hr (Nat.mod_lt _ (by decide)) (by decide) dX0_row_45 ?_
      refine lv_goto (tgt := 50) cx.x cx.b dX0_row_46 (by decide) ?_
      exact ret_i σ cx hw (okA_of (by unfold aBook; rw [if_pos hv, nI_clamp (by omega)])) dX0_row_50 (Nat.le_of_ble_eq_true rfl) (Nat.le_of_ble_eq_true rfl)
  · refine lv_iload_n cx.x cx.b dX0_row_0 rfl (lv_at hl 1 rfl) ?_
    refine lv_if_lt (tgt := 12) cx.x cx.b dX0_row_1 (by decide) (fun hb1 => ?_) (fun hb1 => ?_)
    · refine lv_iconst (v := (-1)) cx.x cx.b dX0_row_12 (by decide) ?_
      exact ret_i σ cx hw (okA_of (by unfold aBook; rw [if_neg hv])) dX0_row_13 (Nat.le_of_ble_eq_true rfl) (Nat.le_of_ble_eq_true rfl)
    · refine lv_iload_n cx.x cx.b dX0_row_4 rfl (lv_at hl 1 rfl) ?_
      refine lv_aload_n cx.x cx.b dX0_row_5 rfl (lv_at hl 0 rfl) ?_
      refine gt_f (v := .int (kp (s_N σ))) cx hw 1 (kw_b σ) rfl inX0 2 (by decide) tw_40 ⟨rfl, rfl, Or.inl rfl⟩ rfl dX0_row_6 ?_
      refine lv_icmp_lt (tgt := 14) cx.x cx.b dX0_row_9 (by decide) (fun hb9 => absurd ⟨Int32.not_lt.mp hb1, hb9⟩ hv) (fun hb9 => ?_)
      refine lv_iconst (v := (-1)) cx.x cx.b dX0_row_12 (by decide) ?_
      exact ret_i σ cx hw (okA_of (by unfold aBook; rw [if_neg hv])) dX0_row_13 (Nat.le_of_ble_eq_true rfl) (Nat.le_of_ble_eq_true rfl)
set_option maxHeartbeats 4000000 in
set_option maxRecDepth 100000 in
theorem c_X10_book (l : Launch) (D : va_G) (G : Nat → Nat) (Q : Nat → ClassId) (σ : St) (ix : Int32) : MI l yX10_book cX10_book 2 .int ({ frames := 2, cells := 0, slots := 0, locals := 44 }) D cls (tyl Q) [.ref (G 0), .int ix] (kw G Q) (kw G Q σ) (okA (aBook σ ix)) 0 0 := by
  refine MI_of (by decide) (Nat.le_of_ble_eq_true rfl) ?_
  intro p e s m args below meth c A ls cx hw hl
  have hl : lv_has ls 2 [(0, .ref (G 0)), (1, .int ix)] := hl
  refine lv_aload_n cx.x cx.b dX10_book_0 rfl (lv_at hl 0 rfl) ?_
  refine gt_f (v := .ref (G 1)) cx hw 0 (kw_h σ) rfl inX10 0 (by decide) tw_85 ⟨rfl, rfl, Or.inl rfl⟩ rfl dX10_book_1 ?_
  refine lv_iload_n cx.x cx.b dX10_book_4 rfl (lv_at hl 1 rfl) ?_
  refine cgo_i cx hw (rV_i (q0 := 1) (n := 1) (As := [.int ix]) (rest := []) cx hw (c_X0_row l D G Q σ ix) (gd_V tw_527 tw_528 tw_529 tw_2 tw_530) rfl ⟨by decide +kernel, rfl, hl.1, (Nat.le_of_ble_eq_true rfl), ⟨(Nat.le_of_ble_eq_true rfl), (Nat.le_of_ble_eq_true rfl)⟩, ⟨(Nat.le_of_ble_eq_true rfl), (Nat.le_of_ble_eq_true rfl)⟩, rfl, rfl⟩ rfl (kw_b σ) rfl dX10_book_5) (fun r u H locs hp hw => ?_)
  obtain ⟨g1, h8, h9⟩ := hp
  change _ = σ at h9
  have h8 := h8.symm
  have h9 := h9.symm
  subst h8
  subst h9
  exact ret_i σ cx hw ⟨rfl, rfl, rfl⟩ dX10_book_8 (Nat.le_of_ble_eq_true rfl) (Nat.le_of_ble_eq_true rfl)
