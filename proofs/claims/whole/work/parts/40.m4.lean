set_option maxHeartbeats 4000000 in
set_option maxRecDepth 100000 in
theorem c_X11_loaf (l : Launch) (D : va_G) (M : Nat → Nat) (Q : Nat → ClassId) (σ : St) (th fl dv : Int32) {b : Nat} (hI : Inv (b + 100) σ) (q : Nat) (ki ma : Int32) : MI l yX11_loaf cX11_loaf 3 .int ({ frames := 1, cells := 0, slots := 0, locals := 22 }) D cls (tyl Q) [.ref (M 0), .int ki, .int ma] (mw M Q) (mw M Q (σ, th, fl, dv)) (okM (aLoaf σ ki ma q)) 0 0 := by
  refine MI_of (by decide) (Nat.le_of_ble_eq_true rfl) ?_
  intro p e s m args below meth c A ls cx hw hl
  have hl : lv_has ls 3 [(0, .ref (M 0)), (1, .int ki), (2, .int ma)] := hl
  have hN9 := hI.n
  by_cases hv : w7 ki
  · by_cases hm : w2000 ma
    · by_cases hn : s_n σ = 20
      · refine lv_aload_n cx.x cx.b dX11_loaf_0 rfl (lv_at hl 0 rfl) ?_
        refine lv_iconst (v := 0) cx.x cx.b dX11_loaf_1 (by decide) ?_
        refine pt_f cx hw 0 (mw_h σ th fl dv) rfl inX11 tyX11 tyX11_ok nmX11 0 (by decide) tw_757 ⟨rfl, rfl, Or.inl rfl⟩ rfl rfl rfl rfl (Nat.le_of_ble_eq_true rfl) dX11_loaf_2 (w1 := mw M Q (σ, 0, fl, dv)) mw_p0 (fun H locs hw => ?_)
        refine lv_iload_n cx.x cx.b dX11_loaf_5 rfl (lv_at hl 1 rfl) ?_
        refine lv_iconst (v := 0) cx.x cx.b dX11_loaf_6 (by decide) ?_
        refine lv_bipush (v := 7) cx.x cx.b dX11_loaf_7 (by decide) ?_
        refine cgo_i cx hw (rS_i (n := 3) (As := [.int ki, .int 0, .int 7]) (rest := []) cx hw (c_X11_within l D M Q σ 0 fl dv ki 0 7) (gd_S tw_817 tw_818 tw_4 tw_819) ⟨by decide +kernel, rfl, hl.1, (Nat.le_of_ble_eq_true rfl), ⟨(Nat.le_of_ble_eq_true rfl), (Nat.le_of_ble_eq_true rfl)⟩, ⟨(Nat.le_of_ble_eq_true rfl), (Nat.le_of_ble_eq_true rfl)⟩, rfl, rfl⟩ rfl dX11_loaf_9) (fun r u H locs hp hw => ?_)
        obtain ⟨h8, h9⟩ := hp
        have h8 := h8.symm
        have h9 := h9.symm
        subst h8
        subst h9
        refine lv_if_eq (tgt := 26) cx.x cx.b dX11_loaf_12 (by decide) (fun hb12 => absurd hb12 (by rw [wth_eq0]; exact fun h => h hv)) (fun hb12 => ?_)
        refine lv_iload_n cx.x cx.b dX11_loaf_15 rfl (lv_at hl 2 rfl) ?_
        refine lv_iconst (v := 1) cx.x cx.b dX11_loaf_16 (by decide) ?_
        refine lv_sipush (v := 2000) cx.x cx.b dX11_loaf_17 (by decide) ?_
        refine cgo_i cx hw (rS_i (n := 3) (As := [.int ma, .int 1, .int 2000]) (rest := []) cx hw (c_X11_within l D M Q σ 0 fl dv ma 1 2000) (gd_S tw_817 tw_818 tw_4 tw_819) ⟨by decide +kernel, rfl, hl.1, (Nat.le_of_ble_eq_true rfl), ⟨(Nat.le_of_ble_eq_true rfl), (Nat.le_of_ble_eq_true rfl)⟩, ⟨(Nat.le_of_ble_eq_true rfl), (Nat.le_of_ble_eq_true rfl)⟩, rfl, rfl⟩ rfl dX11_loaf_20) (fun r u H locs hp hw => ?_)
        obtain ⟨h8, h9⟩ := hp
        have h8 := h8.symm
        have h9 := h9.symm
        subst h8
        subst h9
        refine lv_if_ne (tgt := 29) cx.x cx.b dX11_loaf_23 (by decide) (fun hb23 => ?_) (fun hb23 => absurd hb23 (by rw [wth_eq0]; exact fun h => h hm))
        refine lv_aload_n cx.x cx.b dX11_loaf_29 rfl (lv_at hl 0 rfl) ?_
        refine gt_f (v := .int (nI (s_n σ))) cx hw 0 (mw_h σ 0 fl dv) rfl inX11 1 (by decide) tw_758 ⟨rfl, rfl, Or.inl rfl⟩ rfl dX11_loaf_30 ?_
        refine lv_bipush (v := 20) cx.x cx.b dX11_loaf_33 (by decide) ?_
        refine lv_icmp_ne (tgt := 41) cx.x cx.b dX11_loaf_35 (by decide) (fun hb35 => absurd ((n20 hN9).mpr hn) hb35) (fun hb35 => ?_)
        refine lv_bipush (v := (-104)) cx.x cx.b dX11_loaf_38 (by decide) ?_
        exact ret_i (σ, 0, fl, dv) cx hw (okM_0 (by unfold aLoaf; rw [if_pos ⟨hv, hm⟩, if_pos hn])) dX11_loaf_40 (Nat.le_of_ble_eq_true rfl) (Nat.le_of_ble_eq_true rfl)
      · obtain ⟨kd, hkd, rfl⟩ := w7_k hv
        have hn9 : s_n σ < 20 := by omega
        refine lv_aload_n cx.x cx.b dX11_loaf_0 rfl (lv_at hl 0 rfl) ?_
        refine lv_iconst (v := 0) cx.x cx.b dX11_loaf_1 (by decide) ?_
        refine pt_f cx hw 0 (mw_h σ th fl dv) rfl inX11 tyX11 tyX11_ok nmX11 0 (by decide) tw_757 ⟨rfl, rfl, Or.inl rfl⟩ rfl rfl rfl rfl (Nat.le_of_ble_eq_true rfl) dX11_loaf_2 (w1 := mw M Q (σ, 0, fl, dv)) mw_p0 (fun H locs hw => ?_)
        refine lv_iload_n cx.x cx.b dX11_loaf_5 rfl (lv_at hl 1 rfl) ?_
        refine lv_iconst (v := 0) cx.x cx.b dX11_loaf_6 (by decide) ?_
        refine lv_bipush (v := 7) cx.x cx.b dX11_loaf_7 (by decide) ?_
        refine cgo_i cx hw (rS_i (n := 3) (As := [.int (nI kd), .int 0, .int 7]) (rest := []) cx hw (c_X11_within l D M Q σ 0 fl dv (nI kd) 0 7) (gd_S tw_817 tw_818 tw_4 tw_819) ⟨by decide +kernel, rfl, hl.1, (Nat.le_of_ble_eq_true rfl), ⟨(Nat.le_of_ble_eq_true rfl), (Nat.le_of_ble_eq_true rfl)⟩, ⟨(Nat.le_of_ble_eq_true rfl), (Nat.le_of_ble_eq_true rfl)⟩, rfl, rfl⟩ rfl dX11_loaf_9) (fun r u H locs hp hw => ?_)
        obtain ⟨h8, h9⟩ := hp
        have h8 := h8.symm
        have h9 := h9.symm
        subst h8
        subst h9
        refine lv_if_eq (tgt := 26) cx.x cx.b dX11_loaf_12 (by decide) (fun hb12 => absurd hb12 (by rw [wth_eq0]; exact fun h => h hv)) (fun hb12 => ?_)
        refine lv_iload_n cx.x cx.b dX11_loaf_15 rfl (lv_at hl 2 rfl) ?_
        refine lv_iconst (v := 1) cx.x cx.b dX11_loaf_16 (by decide) ?_
        refine lv_sipush (v := 2000) cx.x cx.b dX11_loaf_17 (by decide) ?_
        refine cgo_i cx hw (rS_i (n := 3) (As := [.int ma, .int 1, .int 2000]) (rest := []) cx hw (c_X11_within l D M Q σ 0 fl dv ma 1 2000) (gd_S tw_817 tw_818 tw_4 tw_819) ⟨by decide +kernel, rfl, hl.1, (Nat.le_of_ble_eq_true rfl), ⟨(Nat.le_of_ble_eq_true rfl), (Nat.le_of_ble_eq_true rfl)⟩, ⟨(Nat.le_of_ble_eq_true rfl), (Nat.le_of_ble_eq_true rfl)⟩, rfl, rfl⟩ rfl dX11_loaf_20) (fun r u H locs hp hw => ?_)
        obtain ⟨h8, h9⟩ := hp
        have h8 := h8.symm
        have h9 := h9.symm
        subst h8
        subst h9
        refine lv_if_ne (tgt := 29) cx.x cx.b dX11_loaf_23 (by decide) (fun hb23 => ?_) (fun hb23 => absurd hb23 (by rw [wth_eq0]; exact fun h => h hm))
        refine lv_aload_n cx.x cx.b dX11_loaf_29 rfl (lv_at hl 0 rfl) ?_
        refine gt_f (v := .int (nI (s_n σ))) cx hw 0 (mw_h σ 0 fl dv) rfl inX11 1 (by decide) tw_758 ⟨rfl, rfl, Or.inl rfl⟩ rfl dX11_loaf_30 ?_
        refine lv_bipush (v := 20) cx.x cx.b dX11_loaf_33 (by decide) ?_
        refine lv_icmp_ne (tgt := 41) cx.x cx.b dX11_loaf_35 (by decide) (fun hb35 => ?_) (fun hb35 => absurd ((n20 hN9).mp hb35) hn)
        refine lv_aload_n cx.x cx.b dX11_loaf_41 rfl (lv_at hl 0 rfl) ?_
        refine gt_f (v := .ref (M 1)) cx hw 0 (mw_h σ 0 fl dv) rfl inX11 2 (by decide) tw_759 ⟨rfl, rfl, Or.inl rfl⟩ rfl dX11_loaf_42 ?_
        refine lv_aload_n cx.x cx.b dX11_loaf_45 rfl (lv_at hl 0 rfl) ?_
        refine gt_f (v := .int (nI (s_n σ))) cx hw 0 (mw_h σ 0 fl dv) rfl inX11 1 (by decide) tw_758 ⟨rfl, rfl, Or.inl rfl⟩ rfl dX11_loaf_46 ?_
        refine lv_iload_n cx.x cx.b dX11_loaf_49 rfl (lv_at hl 1 rfl) ?_
        refine ast_i (f := (fun x9 => nI (s_k σ x9))) cx hw 1 0 rfl rfl (s_n σ) rfl hn9 (by decide) dX11_loaf_50 (w1 := mw M Q (sK (s_n σ) kd σ, 0, fl, dv)) mw_a1 (fun H locs hw => ?_)
        refine lv_aload_n cx.x cx.b dX11_loaf_51 rfl (lv_at hl 0 rfl) ?_
        refine gt_f (v := .ref (M 2)) cx hw 0 (mw_h (sK (s_n σ) kd σ) 0 fl dv) rfl inX11 3 (by decide) tw_760 ⟨rfl, rfl, Or.inl rfl⟩ rfl dX11_loaf_52 ?_
        refine lv_aload_n cx.x cx.b dX11_loaf_55 rfl (lv_at hl 0 rfl) ?_
        refine gt_f (v := .int (nI (s_n σ))) cx hw 0 (mw_h (sK (s_n σ) kd σ) 0 fl dv) rfl inX11 1 (by decide) tw_758 ⟨rfl, rfl, Or.inl rfl⟩ rfl dX11_loaf_56 ?_
        refine lv_iload_n cx.x cx.b dX11_loaf_59 rfl (lv_at hl 2 rfl) ?_
        refine ast_i (f := (s_F σ 3)) cx hw 2 0 rfl rfl (s_n σ) rfl hn9 (by decide) dX11_loaf_60 (w1 := mw M Q (sF 3 (s_n σ) ma (sK (s_n σ) kd σ), 0, fl, dv)) mw_a2 (fun H locs hw => ?_)
        refine lv_aload_n cx.x cx.b dX11_loaf_61 rfl (lv_at hl 0 rfl) ?_
        refine lv_dup cx.x cx.b dX11_loaf_62 rfl ?_
        refine gt_f (v := .int (nI (s_n σ))) cx hw 0 (mw_h (sF 3 (s_n σ) ma (sK (s_n σ) kd σ)) 0 fl dv) rfl inX11 1 (by decide) tw_758 ⟨rfl, rfl, Or.inl rfl⟩ rfl dX11_loaf_63 ?_
        refine lv_iconst (v := 1) cx.x cx.b dX11_loaf_66 (by decide) ?_
        refine lv_iadd cx.x cx.b dX11_loaf_67 ?_
        refine pt_f cx hw 0 (mw_h (sF 3 (s_n σ) ma (sK (s_n σ) kd σ)) 0 fl dv) rfl inX11 tyX11 tyX11_ok nmX11 1 (by decide) tw_758 ⟨rfl, rfl, Or.inl rfl⟩ rfl rfl rfl rfl (Nat.le_of_ble_eq_true rfl) dX11_loaf_68 (w1 := mw M Q (sNn (sF 3 (s_n σ) ma (sK (s_n σ) kd σ)), 0, fl, dv)) mw_p1 (fun H locs hw => ?_)
        refine lv_aload_n cx.x cx.b dX11_loaf_71 rfl (lv_at hl 0 rfl) ?_
        refine gt_f (v := .int (nI (s_n (sNn (sF 3 (s_n σ) ma (sK (s_n σ) kd σ)))))) cx hw 0 (mw_h (sNn (sF 3 (s_n σ) ma (sK (s_n σ) kd σ))) 0 fl dv) rfl inX11 1 (by decide) tw_758 ⟨rfl, rfl, Or.inl rfl⟩ rfl dX11_loaf_72 ?_
        refine lv_iconst (v := 1) cx.x cx.b dX11_loaf_75 (by decide) ?_
        refine lv_isub cx.x cx.b dX11_loaf_76 ?_
        have hw : Wd D cls A s H locs (mw M Q (sNew kd ma q σ, 0, fl, dv)) := hw
        exact ret_i (sNew kd ma q σ, 0, fl, dv) cx hw (by show okM _ (nI (s_n σ + 1) - 1) _; rw [nI_pred]; exact okM_0 (by unfold aLoaf; rw [if_pos ⟨hv, hm⟩, if_neg hn, nI_clamp (by omega)])) dX11_loaf_77 (Nat.le_of_ble_eq_true rfl) (Nat.le_of_ble_eq_true rfl)
    · refine lv_aload_n cx.x cx.b dX11_loaf_0 rfl (lv_at hl 0 rfl) ?_
      refine lv_iconst (v := 0) cx.x cx.b dX11_loaf_1 (by decide) ?_
      refine pt_f cx hw 0 (mw_h σ th fl dv) rfl inX11 tyX11 tyX11_ok nmX11 0 (by decide) tw_757 ⟨rfl, rfl, Or.inl rfl⟩ rfl rfl rfl rfl (Nat.le_of_ble_eq_true rfl) dX11_loaf_2 (w1 := mw M Q (σ, 0, fl, dv)) mw_p0 (fun H locs hw => ?_)
      refine lv_iload_n cx.x cx.b dX11_loaf_5 rfl (lv_at hl 1 rfl) ?_
      refine lv_iconst (v := 0) cx.x cx.b dX11_loaf_6 (by decide) ?_
      refine lv_bipush (v := 7) cx.x cx.b dX11_loaf_7 (by decide) ?_
      refine cgo_i cx hw (rS_i (n := 3) (As := [.int ki, .int 0, .int 7]) (rest := []) cx hw (c_X11_within l D M Q σ 0 fl dv ki 0 7) (gd_S tw_817 tw_818 tw_4 tw_819) ⟨by decide +kernel, rfl, hl.1, (Nat.le_of_ble_eq_true rfl), ⟨(Nat.le_of_ble_eq_true rfl), (Nat.le_of_ble_eq_true rfl)⟩, ⟨(Nat.le_of_ble_eq_true rfl), (Nat.le_of_ble_eq_true rfl)⟩, rfl, rfl⟩ rfl dX11_loaf_9) (fun r u H locs hp hw => ?_)
      obtain ⟨h8, h9⟩ := hp
      have h8 := h8.symm
      have h9 := h9.symm
      subst h8
      subst h9
      refine lv_if_eq (tgt := 26) cx.x cx.b dX11_loaf_12 (by decide) (fun hb12 => absurd hb12 (by rw [wth_eq0]; exact fun h => h hv)) (fun hb12 => ?_)
      refine lv_iload_n cx.x cx.b dX11_loaf_15 rfl (lv_at hl 2 rfl) ?_
      refine lv_iconst (v := 1) cx.x cx.b dX11_loaf_16 (by decide) ?_
      refine lv_sipush (v := 2000) cx.x cx.b dX11_loaf_17 (by decide) ?_
      refine cgo_i cx hw (rS_i (n := 3) (As := [.int ma, .int 1, .int 2000]) (rest := []) cx hw (c_X11_within l D M Q σ 0 fl dv ma 1 2000) (gd_S tw_817 tw_818 tw_4 tw_819) ⟨by decide +kernel, rfl, hl.1, (Nat.le_of_ble_eq_true rfl), ⟨(Nat.le_of_ble_eq_true rfl), (Nat.le_of_ble_eq_true rfl)⟩, ⟨(Nat.le_of_ble_eq_true rfl), (Nat.le_of_ble_eq_true rfl)⟩, rfl, rfl⟩ rfl dX11_loaf_20) (fun r u H locs hp hw => ?_)
      obtain ⟨h8, h9⟩ := hp
      have h8 := h8.symm
      have h9 := h9.symm
      subst h8
      subst h9
      refine lv_if_ne (tgt := 29) cx.x cx.b dX11_loaf_23 (by decide) (fun hb23 => absurd (wth_eq0.mpr hm) hb23) (fun hb23 => ?_)
      refine lv_bipush (v := (-102)) cx.x cx.b dX11_loaf_26 (by decide) ?_
      exact ret_i (σ, 0, fl, dv) cx hw (okM_0 (by unfold aLoaf; rw [if_neg (fun h => hm h.2)])) dX11_loaf_28 (Nat.le_of_ble_eq_true rfl) (Nat.le_of_ble_eq_true rfl)
  · refine lv_aload_n cx.x cx.b dX11_loaf_0 rfl (lv_at hl 0 rfl) ?_
    refine lv_iconst (v := 0) cx.x cx.b dX11_loaf_1 (by decide) ?_
    refine pt_f cx hw 0 (mw_h σ th fl dv) rfl inX11 tyX11 tyX11_ok nmX11 0 (by decide) tw_757 ⟨rfl, rfl, Or.inl rfl⟩ rfl rfl rfl rfl (Nat.le_of_ble_eq_true rfl) dX11_loaf_2 (w1 := mw M Q (σ, 0, fl, dv)) mw_p0 (fun H locs hw => ?_)
    refine lv_iload_n cx.x cx.b dX11_loaf_5 rfl (lv_at hl 1 rfl) ?_
    refine lv_iconst (v := 0) cx.x cx.b dX11_loaf_6 (by decide) ?_
    refine lv_bipush (v := 7) cx.x cx.b dX11_loaf_7 (by decide) ?_
    refine cgo_i cx hw (rS_i (n := 3) (As := [.int ki, .int 0, .int 7]) (rest := []) cx hw (c_X11_within l D M Q σ 0 fl dv ki 0 7) (gd_S tw_817 tw_818 tw_4 tw_819) ⟨by decide +kernel, rfl, hl.1, (Nat.le_of_ble_eq_true rfl), ⟨(Nat.le_of_ble_eq_true rfl), (Nat.le_of_ble_eq_true rfl)⟩, ⟨(Nat.le_of_ble_eq_true rfl), (Nat.le_of_ble_eq_true rfl)⟩, rfl, rfl⟩ rfl dX11_loaf_9) (fun r u H locs hp hw => ?_)
    obtain ⟨h8, h9⟩ := hp
    have h8 := h8.symm
    have h9 := h9.symm
    subst h8
    subst h9
    refine lv_if_eq (tgt := 26) cx.x cx.b dX11_loaf_12 (by decide) (fun hb12 => ?_) (fun hb12 => absurd (wth_eq0.mpr hv) hb12)
    refine lv_bipush (v := (-102)) cx.x cx.b dX11_loaf_26 (by decide) ?_
    exact ret_i (σ, 0, fl, dv) cx hw (okM_0 (by unfold aLoaf; rw [if_neg (fun h => hv h.1)])) dX11_loaf_28 (Nat.le_of_ble_eq_true rfl) (Nat.le_of_ble_eq_true rfl)
