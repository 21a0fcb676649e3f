set_option maxHeartbeats 4000000 in
set_option maxRecDepth 100000 in
theorem c_X10_loaf (l : Launch) (D : va_G) (G : Nat → Nat) (Q : Nat → ClassId) (σ : St) {b : Nat} (hI : Inv b σ) (ki ma : Int32) : MI l yX10_loaf cX10_loaf 4 .int ({ frames := 7, cells := 1, slots := 8, locals := 163 }) D cls (tyl Q) [.ref (G 0), .int ki, .int ma] (kw G Q) (kw G Q σ) (fun r u => ∃ q, okA (aLoaf σ ki ma q) r u) 1 8 := by
  refine MI_of (by decide) (Nat.le_of_ble_eq_true rfl) ?_
  intro p e s m args below meth c A ls cx hw hl
  have hl : lv_has ls 4 [(0, .ref (G 0)), (1, .int ki), (2, .int ma)] := hl
  have hN9 := hI.n
  by_cases hv : w7 ki
  · by_cases hm : w2000 ma
    · by_cases hn : s_n σ = 20
      · refine lv_iload_n cx.x cx.b dX10_loaf_0 rfl (lv_at hl 1 rfl) ?_
        refine lv_iconst (v := 0) cx.x cx.b dX10_loaf_1 (by decide) ?_
        refine lv_bipush (v := 7) cx.x cx.b dX10_loaf_2 (by decide) ?_
        refine cgo_i cx hw (rS_i (n := 3) (As := [.int ki, .int 0, .int 7]) (rest := []) cx hw (c_X10_within l D G Q σ ki 0 7) (gd_S tw_102 tw_103 tw_1 tw_104) ⟨by decide +kernel, rfl, hl.1, (Nat.le_of_ble_eq_true rfl), ⟨(Nat.le_of_ble_eq_true rfl), (Nat.le_of_ble_eq_true rfl)⟩, ⟨(Nat.le_of_ble_eq_true rfl), (Nat.le_of_ble_eq_true rfl)⟩, rfl, rfl⟩ rfl dX10_loaf_4) (fun r u H locs hp hw => ?_)
        obtain ⟨h8, h9⟩ := hp
        have h8 := h8.symm
        have h9 := h9.symm
        subst h8
        subst h9
        refine lv_if_eq (tgt := 21) cx.x cx.b dX10_loaf_7 (by decide) (fun hb7 => absurd hb7 (by rw [wth_eq0]; exact fun h => h hv)) (fun hb7 => ?_)
        refine lv_iload_n cx.x cx.b dX10_loaf_10 rfl (lv_at hl 2 rfl) ?_
        refine lv_iconst (v := 1) cx.x cx.b dX10_loaf_11 (by decide) ?_
        refine lv_sipush (v := 2000) cx.x cx.b dX10_loaf_12 (by decide) ?_
        refine cgo_i cx hw (rS_i (n := 3) (As := [.int ma, .int 1, .int 2000]) (rest := []) cx hw (c_X10_within l D G Q σ ma 1 2000) (gd_S tw_102 tw_103 tw_1 tw_104) ⟨by decide +kernel, rfl, hl.1, (Nat.le_of_ble_eq_true rfl), ⟨(Nat.le_of_ble_eq_true rfl), (Nat.le_of_ble_eq_true rfl)⟩, ⟨(Nat.le_of_ble_eq_true rfl), (Nat.le_of_ble_eq_true rfl)⟩, rfl, rfl⟩ rfl dX10_loaf_15) (fun r u H locs hp hw => ?_)
        obtain ⟨h8, h9⟩ := hp
        have h8 := h8.symm
        have h9 := h9.symm
        subst h8
        subst h9
        refine lv_if_ne (tgt := 24) cx.x cx.b dX10_loaf_18 (by decide) (fun hb18 => ?_) (fun hb18 => absurd hb18 (by rw [wth_eq0]; exact fun h => h hm))
        refine lv_aload_n cx.x cx.b dX10_loaf_24 rfl (lv_at hl 0 rfl) ?_
        refine gt_f (v := .int (nI (s_n σ))) cx hw 0 (kw_h σ) rfl inX10 3 (by decide) tw_88 ⟨rfl, rfl, Or.inl rfl⟩ rfl dX10_loaf_25 ?_
        refine lv_istore_n (lv' := [(3, .int (nI (s_n σ))), (0, .ref (G 0)), (1, .int ki), (2, .int ma)]) cx.x cx.b dX10_loaf_28 rfl hl (by decide) rfl (fun ls hl => ?_)
        refine lv_iload_n cx.x cx.b dX10_loaf_29 rfl (lv_at hl 0 rfl) ?_
        refine lv_bipush (v := 20) cx.x cx.b dX10_loaf_30 (by decide) ?_
        refine lv_icmp_lt (tgt := 38) cx.x cx.b dX10_loaf_32 (by decide) (fun hb32 => absurd hb32 (by rw [hn]; decide)) (fun hb32 => ?_)
        refine lv_bipush (v := (-104)) cx.x cx.b dX10_loaf_35 (by decide) ?_
        exact ret_i σ cx hw ⟨0, okA_of (by unfold aLoaf; rw [if_pos ⟨hv, hm⟩, if_pos hn])⟩ dX10_loaf_37 (Nat.le_of_ble_eq_true rfl) (Nat.le_of_ble_eq_true rfl)
      · obtain ⟨kd, hkd, rfl⟩ := w7_k hv
        have hn9 : s_n σ < 20 := by omega
        refine lv_iload_n cx.x cx.b dX10_loaf_0 rfl (lv_at hl 1 rfl) ?_
        refine lv_iconst (v := 0) cx.x cx.b dX10_loaf_1 (by decide) ?_
        refine lv_bipush (v := 7) cx.x cx.b dX10_loaf_2 (by decide) ?_
        refine cgo_i cx hw (rS_i (n := 3) (As := [.int (nI kd), .int 0, .int 7]) (rest := []) cx hw (c_X10_within l D G Q σ (nI kd) 0 7) (gd_S tw_102 tw_103 tw_1 tw_104) ⟨by decide +kernel, rfl, hl.1, (Nat.le_of_ble_eq_true rfl), ⟨(Nat.le_of_ble_eq_true rfl), (Nat.le_of_ble_eq_true rfl)⟩, ⟨(Nat.le_of_ble_eq_true rfl), (Nat.le_of_ble_eq_true rfl)⟩, rfl, rfl⟩ rfl dX10_loaf_4) (fun r u H locs hp hw => ?_)
        obtain ⟨h8, h9⟩ := hp
        have h8 := h8.symm
        have h9 := h9.symm
        subst h8
        subst h9
        refine lv_if_eq (tgt := 21) cx.x cx.b dX10_loaf_7 (by decide) (fun hb7 => absurd hb7 (by rw [wth_eq0]; exact fun h => h hv)) (fun hb7 => ?_)
        refine lv_iload_n cx.x cx.b dX10_loaf_10 rfl (lv_at hl 2 rfl) ?_
        refine lv_iconst (v := 1) cx.x cx.b dX10_loaf_11 (by decide) ?_
        refine lv_sipush (v := 2000) cx.x cx.b dX10_loaf_12 (by decide) ?_
        refine cgo_i cx hw (rS_i (n := 3) (As := [.int ma, .int 1, .int 2000]) (rest := []) cx hw (c_X10_within l D G Q σ ma 1 2000) (gd_S tw_102 tw_103 tw_1 tw_104) ⟨by decide +kernel, rfl, hl.1, (Nat.le_of_ble_eq_true rfl), ⟨(Nat.le_of_ble_eq_true rfl), (Nat.le_of_ble_eq_true rfl)⟩, ⟨(Nat.le_of_ble_eq_true rfl), (Nat.le_of_ble_eq_true rfl)⟩, rfl, rfl⟩ rfl dX10_loaf_15) (fun r u H locs hp hw => ?_)
        obtain ⟨h8, h9⟩ := hp
        have h8 := h8.symm
        have h9 := h9.symm
        subst h8
        subst h9
        refine lv_if_ne (tgt := 24) cx.x cx.b dX10_loaf_18 (by decide) (fun hb18 => ?_) (fun hb18 => absurd hb18 (by rw [wth_eq0]; exact fun h => h hm))
        refine lv_aload_n cx.x cx.b dX10_loaf_24 rfl (lv_at hl 0 rfl) ?_
        refine gt_f (v := .int (nI (s_n σ))) cx hw 0 (kw_h σ) rfl inX10 3 (by decide) tw_88 ⟨rfl, rfl, Or.inl rfl⟩ rfl dX10_loaf_25 ?_
        refine lv_istore_n (lv' := [(3, .int (nI (s_n σ))), (0, .ref (G 0)), (1, .int (nI kd)), (2, .int ma)]) cx.x cx.b dX10_loaf_28 rfl hl (by decide) rfl (fun ls hl => ?_)
        refine lv_iload_n cx.x cx.b dX10_loaf_29 rfl (lv_at hl 0 rfl) ?_
        refine lv_bipush (v := 20) cx.x cx.b dX10_loaf_30 (by decide) ?_
        refine lv_icmp_lt (tgt := 38) cx.x cx.b dX10_loaf_32 (by decide) (fun hb32 => ?_) (fun hb32 => absurd (nI_lt (b := 20) hn9 (by decide)) hb32)
        refine lv_aload_n cx.x cx.b dX10_loaf_38 rfl (lv_at hl 1 rfl) ?_
        refine gt_f (v := .ref (G 4)) cx hw 0 (kw_h σ) rfl inX10 2 (by decide) tw_87 ⟨rfl, rfl, Or.inl rfl⟩ rfl dX10_loaf_39 ?_
        refine lv_iload_n cx.x cx.b dX10_loaf_42 rfl (lv_at hl 0 rfl) ?_
        refine lv_aload_n cx.x cx.b dX10_loaf_43 rfl (lv_at hl 1 rfl) ?_
        refine lv_iload_n cx.x cx.b dX10_loaf_44 rfl (lv_at hl 2 rfl) ?_
        refine lv_iload_n cx.x cx.b dX10_loaf_45 rfl (lv_at hl 0 rfl) ?_
        refine lv_iload_n cx.x cx.b dX10_loaf_46 rfl (lv_at hl 3 rfl) ?_
        refine cgo_r cx hw (rV_r (q0 := 0) (n := 3) (As := [.int (nI kd), .int (nI (s_n σ)), .int ma]) (rest := [.int (nI (s_n σ)), .ref (G 4)]) cx hw (c_X10_knead l D G Q σ kd hkd (nI (s_n σ)) ma) (gd_V tw_105 tw_107 ts_0 tw_1 tw_108) rfl ⟨by decide +kernel, rfl, hl.1, (Nat.le_of_ble_eq_true rfl), ⟨(Nat.le_of_ble_eq_true rfl), (Nat.le_of_ble_eq_true rfl)⟩, ⟨(Nat.le_of_ble_eq_true rfl), (Nat.le_of_ble_eq_true rfl)⟩, rfl, rfl⟩ rfl (kw_h σ) rfl dX10_loaf_47) (fun r u H locs hp hw => ?_)
        subst hp
        refine W.eq (g2 := F0 m 50 ls [.ref u, .int (nI (s_n σ)), .ref (G 4)]) rfl ?_
        refine ast_r cx hw 4 2 (13 + s_n σ) rfl rfl kwX_get (cls_d hkd) (kd_cast hkd) (s_n σ) rfl hn9 (by decide) dX10_loaf_50 (w1 := _) rfl (fun H locs hw => ?_)
        refine lv_aload_n cx.x cx.b dX10_loaf_51 rfl (lv_at hl 1 rfl) ?_
        refine lv_iload_n cx.x cx.b dX10_loaf_52 rfl (lv_at hl 0 rfl) ?_
        refine lv_iconst (v := 1) cx.x cx.b dX10_loaf_53 (by decide) ?_
        refine lv_iadd cx.x cx.b dX10_loaf_54 ?_
        refine pt_f cx hw 0 (a := G 0) (ci := 2) (fs := [.ref (G 1), .ref (G 3), .ref (G 4), .int (nI (s_n σ))]) rfl rfl inX10 tyX10 tyX10_ok nmX10 3 (by decide) tw_88 ⟨rfl, rfl, Or.inl rfl⟩ rfl rfl rfl rfl (Nat.le_of_ble_eq_true rfl) dX10_loaf_55 (w1 := kw G Q (sNew kd ma u σ)) (kw_new (fun f hf => hI.2.2.2.2.2.2.1 f _ (Nat.le_refl _) hf)) (fun H locs hw => ?_)
        refine lv_iload_n cx.x cx.b dX10_loaf_58 rfl (lv_at hl 0 rfl) ?_
        exact ret_i (sNew kd ma u σ) cx hw ⟨u, okA_of (by unfold aLoaf; rw [if_pos ⟨hv, hm⟩, if_neg hn, nI_clamp (by omega)])⟩ dX10_loaf_59 (Nat.le_of_ble_eq_true rfl) (Nat.le_of_ble_eq_true rfl)
    · refine lv_iload_n cx.x cx.b dX10_loaf_0 rfl (lv_at hl 1 rfl) ?_
      refine lv_iconst (v := 0) cx.x cx.b dX10_loaf_1 (by decide) ?_
      refine lv_bipush (v := 7) cx.x cx.b dX10_loaf_2 (by decide) ?_
      refine cgo_i cx hw (rS_i (n := 3) (As := [.int ki, .int 0, .int 7]) (rest := []) cx hw (c_X10_within l D G Q σ ki 0 7) (gd_S tw_102 tw_103 tw_1 tw_104) ⟨by decide +kernel, rfl, hl.1, (Nat.le_of_ble_eq_true rfl), ⟨(Nat.le_of_ble_eq_true rfl), (Nat.le_of_ble_eq_true rfl)⟩, ⟨(Nat.le_of_ble_eq_true rfl), (Nat.le_of_ble_eq_true rfl)⟩, rfl, rfl⟩ rfl dX10_loaf_4) (fun r u H locs hp hw => ?_)
      obtain ⟨h8, h9⟩ := hp
      have h8 := h8.symm
      have h9 := h9.symm
      subst h8
      subst h9
      refine lv_if_eq (tgt := 21) cx.x cx.b dX10_loaf_7 (by decide) (fun hb7 => absurd hb7 (by rw [wth_eq0]; exact fun h => h hv)) (fun hb7 => ?_)
      refine lv_iload_n cx.x cx.b dX10_loaf_10 rfl (lv_at hl 2 rfl) ?_
      refine lv_iconst (v := 1) cx.x cx.b dX10_loaf_11 (by decide) ?_
      refine lv_sipush (v := 2000) cx.x cx.b dX10_loaf_12 (by decide) ?_
      refine cgo_i cx hw (rS_i (n := 3) (As := [.int ma, .int 1, .int 2000]) (rest := []) cx hw (c_X10_within l D G Q σ ma 1 2000) (gd_S tw_102 tw_103 tw_1 tw_104) ⟨by decide +kernel, rfl, hl.1, (Nat.le_of_ble_eq_true rfl), ⟨(Nat.le_of_ble_eq_true rfl), (Nat.le_of_ble_eq_true rfl)⟩, ⟨(Nat.le_of_ble_eq_true rfl), (Nat.le_of_ble_eq_true rfl)⟩, rfl, rfl⟩ rfl dX10_loaf_15) (fun r u H locs hp hw => ?_)
      obtain ⟨h8, h9⟩ := hp
      have h8 := h8.symm
      have h9 := h9.symm
      subst h8
      subst h9
      refine lv_if_ne (tgt := 24) cx.x cx.b dX10_loaf_18 (by decide) (fun hb18 => absurd (wth_eq0.mpr hm) hb18) (fun hb18 => ?_)
      refine lv_bipush (v := (-102)) cx.x cx.b dX10_loaf_21 (by decide) ?_
      exact ret_i σ cx hw ⟨0, okA_of (by unfold aLoaf; rw [if_neg (fun h => hm h.2)])⟩ dX10_loaf_23 (Nat.le_of_ble_eq_true rfl) (Nat.le_of_ble_eq_true rfl)
  · refine lv_iload_n cx.x cx.b dX10_loaf_0 rfl (lv_at hl 1 rfl) ?_
    refine lv_iconst (v := 0) cx.x cx.b dX10_loaf_1 (by decide) ?_
    refine lv_bipush (v := 7) cx.x cx.b dX10_loaf_2 (by decide) ?_
    refine cgo_i cx hw (rS_i (n := 3) (As := [.int ki, .int 0, .int 7]) (rest := []) cx hw (c_X10_within l D G Q σ ki 0 7) (gd_S tw_102 tw_103 tw_1 tw_104) ⟨by decide +kernel, rfl, hl.1, (Nat.le_of_ble_eq_true rfl), ⟨(Nat.le_of_ble_eq_true rfl), (Nat.le_of_ble_eq_true rfl)⟩, ⟨(Nat.le_of_ble_eq_true rfl), (Nat.le_of_ble_eq_true rfl)⟩, rfl, rfl⟩ rfl dX10_loaf_4) (fun r u H locs hp hw => ?_)
    obtain ⟨h8, h9⟩ := hp
    have h8 := h8.symm
    have h9 := h9.symm
    subst h8
    subst h9
    refine lv_if_eq (tgt := 21) cx.x cx.b dX10_loaf_7 (by decide) (fun hb7 => ?_) (fun hb7 => absurd (wth_eq0.mpr hv) hb7)
    refine lv_bipush (v := (-102)) cx.x cx.b dX10_loaf_21 (by decide) ?_
    exact ret_i σ cx hw ⟨0, okA_of (by unfold aLoaf; rw [if_neg (fun h => hv h.1)])⟩ dX10_loaf_23 (Nat.le_of_ble_eq_true rfl) (Nat.le_of_ble_eq_true rfl)
