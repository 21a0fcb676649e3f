set_option maxHeartbeats 4000000 in
set_option maxRecDepth 100000 in
theorem c_X11_lays (l : Launch) (D : va_G) (M : Nat → Nat) (Q : Nat → ClassId) (σ : St) (th fl dv : Int32) (i : Nat) (hi : i < 20) (hb : s_N σ + 4 < 2 ^ 30) (hd : s_k σ i < 8) (k : Nat) (hk : k < 4) (hz : s_z σ k = -1 ∨ ∃ j, j ≤ 8 ∧ s_z σ k = nI j) (pl : Int32) : MI l yX11_lays cX11_lays 5 .int ({ frames := 3, cells := 0, slots := 0, locals := 64 }) D cls (tyl Q) [.ref (M 0), .int (nI i), .int (nI k), .int pl] (mw M Q) (mw M Q (σ, th, fl, dv)) (fun r u => r = nI (wLay (s_k σ i) (s_z σ k) pl) ∧ u = (sLay (s_k σ i) i k pl σ, th, fl, dv)) 0 0 := by
  refine MI_of (by decide) (Nat.le_of_ble_eq_true rfl) ?_
  intro p e s m args below meth c A ls cx hw hl
  have hl : lv_has ls 5 [(0, .ref (M 0)), (1, .int (nI i)), (2, .int (nI k)), (3, .int pl)] := hl
  rcases (show s_k σ i = 0 ∨ s_k σ i = 1 ∨ s_k σ i = 2 ∨ s_k σ i = 3 ∨ s_k σ i = 4 ∨ s_k σ i = 5 ∨ s_k σ i = 6 ∨ s_k σ i = 7 by omega) with h9 | h9 | h9 | h9 | h9 | h9 | h9 | h9
  · refine lv_aload_n cx.x cx.b dX11_lays_0 rfl (lv_at hl 0 rfl) ?_
    refine gt_f (v := .ref (M 1)) cx hw 0 (mw_h σ th fl dv) rfl inX11 2 (by decide) tw_759 ⟨rfl, rfl, Or.inl rfl⟩ rfl dX11_lays_1 ?_
    refine lv_iload_n cx.x cx.b dX11_lays_4 rfl (lv_at hl 1 rfl) ?_
    refine ald_i (f := (fun x9 => nI (s_k σ x9))) cx hw 1 0 rfl rfl i rfl hi (by decide) dX11_lays_5 ?_
    rw [h9]
    refine lv_tableOut (tgt := 104) cx.x cx.b dX11_lays_6 (by decide) (by decide) ?_
    refine lv_aload_n cx.x cx.b dX11_lays_104 rfl (lv_at hl 0 rfl) ?_
    refine lv_iload_n cx.x cx.b dX11_lays_105 rfl (lv_at hl 1 rfl) ?_
    refine lv_iload_n cx.x cx.b dX11_lays_106 rfl (lv_at hl 2 rfl) ?_
    refine lv_iload_n cx.x cx.b dX11_lays_107 rfl (lv_at hl 3 rfl) ?_
    refine cgo_i cx hw (rV_i (q0 := 0) (n := 3) (As := [.int (nI i), .int (nI k), .int pl]) (rest := []) cx hw (c_X11_plainLay l D M Q σ th fl dv i hi (by show s_N σ + 1 < 2 ^ 30; omega) k hk hz pl) (gd_V tw_879 tw_881 ts_16 tw_4 tw_882) rfl ⟨by decide +kernel, rfl, hl.1, (Nat.le_of_ble_eq_true rfl), ⟨(Nat.le_of_ble_eq_true rfl), (Nat.le_of_ble_eq_true rfl)⟩, ⟨(Nat.le_of_ble_eq_true rfl), (Nat.le_of_ble_eq_true rfl)⟩, rfl, rfl⟩ rfl (mw_h σ th fl dv) rfl dX11_lays_108) (fun r u H locs hp hw => ?_)
    obtain ⟨h8, h9'⟩ := hp
    have h8 := h8.symm
    have h9' := h9'.symm
    subst h8
    subst h9'
    exact ret_i (lay0 i k pl σ, th, fl, dv) cx hw ⟨by rw [wLay_o (by decide) (by decide)], by rw [sLay_o (by decide) (by decide) (by decide)]⟩ dX11_lays_111 (Nat.le_of_ble_eq_true rfl) (Nat.le_of_ble_eq_true rfl)
  · refine lv_aload_n cx.x cx.b dX11_lays_0 rfl (lv_at hl 0 rfl) ?_
    refine gt_f (v := .ref (M 1)) cx hw 0 (mw_h σ th fl dv) rfl inX11 2 (by decide) tw_759 ⟨rfl, rfl, Or.inl rfl⟩ rfl dX11_lays_1 ?_
    refine lv_iload_n cx.x cx.b dX11_lays_4 rfl (lv_at hl 1 rfl) ?_
    refine ald_i (f := (fun x9 => nI (s_k σ x9))) cx hw 1 0 rfl rfl i rfl hi (by decide) dX11_lays_5 ?_
    rw [h9]
    refine lv_tableOut (tgt := 104) cx.x cx.b dX11_lays_6 (by decide) (by decide) ?_
    refine lv_aload_n cx.x cx.b dX11_lays_104 rfl (lv_at hl 0 rfl) ?_
    refine lv_iload_n cx.x cx.b dX11_lays_105 rfl (lv_at hl 1 rfl) ?_
    refine lv_iload_n cx.x cx.b dX11_lays_106 rfl (lv_at hl 2 rfl) ?_
    refine lv_iload_n cx.x cx.b dX11_lays_107 rfl (lv_at hl 3 rfl) ?_
    refine cgo_i cx hw (rV_i (q0 := 0) (n := 3) (As := [.int (nI i), .int (nI k), .int pl]) (rest := []) cx hw (c_X11_plainLay l D M Q σ th fl dv i hi (by show s_N σ + 1 < 2 ^ 30; omega) k hk hz pl) (gd_V tw_879 tw_881 ts_16 tw_4 tw_882) rfl ⟨by decide +kernel, rfl, hl.1, (Nat.le_of_ble_eq_true rfl), ⟨(Nat.le_of_ble_eq_true rfl), (Nat.le_of_ble_eq_true rfl)⟩, ⟨(Nat.le_of_ble_eq_true rfl), (Nat.le_of_ble_eq_true rfl)⟩, rfl, rfl⟩ rfl (mw_h σ th fl dv) rfl dX11_lays_108) (fun r u H locs hp hw => ?_)
    obtain ⟨h8, h9'⟩ := hp
    have h8 := h8.symm
    have h9' := h9'.symm
    subst h8
    subst h9'
    exact ret_i (lay0 i k pl σ, th, fl, dv) cx hw ⟨by rw [wLay_o (by decide) (by decide)], by rw [sLay_o (by decide) (by decide) (by decide)]⟩ dX11_lays_111 (Nat.le_of_ble_eq_true rfl) (Nat.le_of_ble_eq_true rfl)
  · refine lv_aload_n cx.x cx.b dX11_lays_0 rfl (lv_at hl 0 rfl) ?_
    refine gt_f (v := .ref (M 1)) cx hw 0 (mw_h σ th fl dv) rfl inX11 2 (by decide) tw_759 ⟨rfl, rfl, Or.inl rfl⟩ rfl dX11_lays_1 ?_
    refine lv_iload_n cx.x cx.b dX11_lays_4 rfl (lv_at hl 1 rfl) ?_
    refine ald_i (f := (fun x9 => nI (s_k σ x9))) cx hw 1 0 rfl rfl i rfl hi (by decide) dX11_lays_5 ?_
    rw [h9]
    refine lv_tableOut (tgt := 104) cx.x cx.b dX11_lays_6 (by decide) (by decide) ?_
    refine lv_aload_n cx.x cx.b dX11_lays_104 rfl (lv_at hl 0 rfl) ?_
    refine lv_iload_n cx.x cx.b dX11_lays_105 rfl (lv_at hl 1 rfl) ?_
    refine lv_iload_n cx.x cx.b dX11_lays_106 rfl (lv_at hl 2 rfl) ?_
    refine lv_iload_n cx.x cx.b dX11_lays_107 rfl (lv_at hl 3 rfl) ?_
    refine cgo_i cx hw (rV_i (q0 := 0) (n := 3) (As := [.int (nI i), .int (nI k), .int pl]) (rest := []) cx hw (c_X11_plainLay l D M Q σ th fl dv i hi (by show s_N σ + 1 < 2 ^ 30; omega) k hk hz pl) (gd_V tw_879 tw_881 ts_16 tw_4 tw_882) rfl ⟨by decide +kernel, rfl, hl.1, (Nat.le_of_ble_eq_true rfl), ⟨(Nat.le_of_ble_eq_true rfl), (Nat.le_of_ble_eq_true rfl)⟩, ⟨(Nat.le_of_ble_eq_true rfl), (Nat.le_of_ble_eq_true rfl)⟩, rfl, rfl⟩ rfl (mw_h σ th fl dv) rfl dX11_lays_108) (fun r u H locs hp hw => ?_)
    obtain ⟨h8, h9'⟩ := hp
    have h8 := h8.symm
    have h9' := h9'.symm
    subst h8
    subst h9'
    exact ret_i (lay0 i k pl σ, th, fl, dv) cx hw ⟨by rw [wLay_o (by decide) (by decide)], by rw [sLay_o (by decide) (by decide) (by decide)]⟩ dX11_lays_111 (Nat.le_of_ble_eq_true rfl) (Nat.le_of_ble_eq_true rfl)
  · refine lv_aload_n cx.x cx.b dX11_lays_0 rfl (lv_at hl 0 rfl) ?_
    refine gt_f (v := .ref (M 1)) cx hw 0 (mw_h σ th fl dv) rfl inX11 2 (by decide) tw_759 ⟨rfl, rfl, Or.inl rfl⟩ rfl dX11_lays_1 ?_
    refine lv_iload_n cx.x cx.b dX11_lays_4 rfl (lv_at hl 1 rfl) ?_
    refine ald_i (f := (fun x9 => nI (s_k σ x9))) cx hw 1 0 rfl rfl i rfl hi (by decide) dX11_lays_5 ?_
    rw [h9]
    refine lv_tableOut (tgt := 104) cx.x cx.b dX11_lays_6 (by decide) (by decide) ?_
    refine lv_aload_n cx.x cx.b dX11_lays_104 rfl (lv_at hl 0 rfl) ?_
    refine lv_iload_n cx.x cx.b dX11_lays_105 rfl (lv_at hl 1 rfl) ?_
    refine lv_iload_n cx.x cx.b dX11_lays_106 rfl (lv_at hl 2 rfl) ?_
    refine lv_iload_n cx.x cx.b dX11_lays_107 rfl (lv_at hl 3 rfl) ?_
    refine cgo_i cx hw (rV_i (q0 := 0) (n := 3) (As := [.int (nI i), .int (nI k), .int pl]) (rest := []) cx hw (c_X11_plainLay l D M Q σ th fl dv i hi (by show s_N σ + 1 < 2 ^ 30; omega) k hk hz pl) (gd_V tw_879 tw_881 ts_16 tw_4 tw_882) rfl ⟨by decide +kernel, rfl, hl.1, (Nat.le_of_ble_eq_true rfl), ⟨(Nat.le_of_ble_eq_true rfl), (Nat.le_of_ble_eq_true rfl)⟩, ⟨(Nat.le_of_ble_eq_true rfl), (Nat.le_of_ble_eq_true rfl)⟩, rfl, rfl⟩ rfl (mw_h σ th fl dv) rfl dX11_lays_108) (fun r u H locs hp hw => ?_)
    obtain ⟨h8, h9'⟩ := hp
    have h8 := h8.symm
    have h9' := h9'.symm
    subst h8
    subst h9'
    exact ret_i (lay0 i k pl σ, th, fl, dv) cx hw ⟨by rw [wLay_o (by decide) (by decide)], by rw [sLay_o (by decide) (by decide) (by decide)]⟩ dX11_lays_111 (Nat.le_of_ble_eq_true rfl) (Nat.le_of_ble_eq_true rfl)
  · refine lv_aload_n cx.x cx.b dX11_lays_0 rfl (lv_at hl 0 rfl) ?_
    refine gt_f (v := .ref (M 1)) cx hw 0 (mw_h σ th fl dv) rfl inX11 2 (by decide) tw_759 ⟨rfl, rfl, Or.inl rfl⟩ rfl dX11_lays_1 ?_
    refine lv_iload_n cx.x cx.b dX11_lays_4 rfl (lv_at hl 1 rfl) ?_
    refine ald_i (f := (fun x9 => nI (s_k σ x9))) cx hw 1 0 rfl rfl i rfl hi (by decide) dX11_lays_5 ?_
    rw [h9]
    refine lv_tableOut (tgt := 104) cx.x cx.b dX11_lays_6 (by decide) (by decide) ?_
    refine lv_aload_n cx.x cx.b dX11_lays_104 rfl (lv_at hl 0 rfl) ?_
    refine lv_iload_n cx.x cx.b dX11_lays_105 rfl (lv_at hl 1 rfl) ?_
    refine lv_iload_n cx.x cx.b dX11_lays_106 rfl (lv_at hl 2 rfl) ?_
    refine lv_iload_n cx.x cx.b dX11_lays_107 rfl (lv_at hl 3 rfl) ?_
    refine cgo_i cx hw (rV_i (q0 := 0) (n := 3) (As := [.int (nI i), .int (nI k), .int pl]) (rest := []) cx hw (c_X11_plainLay l D M Q σ th fl dv i hi (by show s_N σ + 1 < 2 ^ 30; omega) k hk hz pl) (gd_V tw_879 tw_881 ts_16 tw_4 tw_882) rfl ⟨by decide +kernel, rfl, hl.1, (Nat.le_of_ble_eq_true rfl), ⟨(Nat.le_of_ble_eq_true rfl), (Nat.le_of_ble_eq_true rfl)⟩, ⟨(Nat.le_of_ble_eq_true rfl), (Nat.le_of_ble_eq_true rfl)⟩, rfl, rfl⟩ rfl (mw_h σ th fl dv) rfl dX11_lays_108) (fun r u H locs hp hw => ?_)
    obtain ⟨h8, h9'⟩ := hp
    have h8 := h8.symm
    have h9' := h9'.symm
    subst h8
    subst h9'
    exact ret_i (lay0 i k pl σ, th, fl, dv) cx hw ⟨by rw [wLay_o (by decide) (by decide)], by rw [sLay_o (by decide) (by decide) (by decide)]⟩ dX11_lays_111 (Nat.le_of_ble_eq_true rfl) (Nat.le_of_ble_eq_true rfl)
  · refine lv_aload_n cx.x cx.b dX11_lays_0 rfl (lv_at hl 0 rfl) ?_
    refine gt_f (v := .ref (M 1)) cx hw 0 (mw_h σ th fl dv) rfl inX11 2 (by decide) tw_759 ⟨rfl, rfl, Or.inl rfl⟩ rfl dX11_lays_1 ?_
    refine lv_iload_n cx.x cx.b dX11_lays_4 rfl (lv_at hl 1 rfl) ?_
    refine ald_i (f := (fun x9 => nI (s_k σ x9))) cx hw 1 0 rfl rfl i rfl hi (by decide) dX11_lays_5 ?_
    rw [h9]
    refine lv_tableIn (tgt := 32) cx.x cx.b dX11_lays_6 (by decide) (by decide) rfl (by decide) ?_
    refine lv_aload_n cx.x cx.b dX11_lays_32 rfl (lv_at hl 0 rfl) ?_
    refine lv_iconst (v := 2) cx.x cx.b dX11_lays_33 (by decide) ?_
    refine lv_iconst (v := 5) cx.x cx.b dX11_lays_34 (by decide) ?_
    refine cgo_v cx hw (rV_v (q0 := 0) (n := 2) (As := [.int 2, .int 5]) (rest := []) cx hw (c_X11_begin l D M Q σ th fl dv (by show s_N σ < 2 ^ 30; omega) 2 5) (gd_V tw_847 tw_849 ts_10 tw_4 tw_850) rfl ⟨by decide +kernel, rfl, hl.1, (Nat.le_of_ble_eq_true rfl), ⟨(Nat.le_of_ble_eq_true rfl), (Nat.le_of_ble_eq_true rfl)⟩, ⟨(Nat.le_of_ble_eq_true rfl), (Nat.le_of_ble_eq_true rfl)⟩, rfl, rfl⟩ rfl (mw_h σ th fl dv) rfl dX11_lays_35) (fun u H locs hp hw => ?_)
    have hp := hp.symm
    subst hp
    refine lv_aload_n cx.x cx.b dX11_lays_38 rfl (lv_at hl 0 rfl) ?_
    refine lv_iload_n cx.x cx.b dX11_lays_39 rfl (lv_at hl 1 rfl) ?_
    refine lv_iload_n cx.x cx.b dX11_lays_40 rfl (lv_at hl 2 rfl) ?_
    refine lv_iload_n cx.x cx.b dX11_lays_41 rfl (lv_at hl 3 rfl) ?_
    refine cgo_i cx hw (rV_i (q0 := 0) (n := 3) (As := [.int (nI i), .int (nI k), .int pl]) (rest := []) cx hw (c_X11_plainLay l D M Q (sBeg 2 5 σ) th fl dv i hi (by show s_N σ + 1 + 1 < 2 ^ 30; omega) k hk hz pl) (gd_V tw_879 tw_881 ts_16 tw_4 tw_882) rfl ⟨by decide +kernel, rfl, hl.1, (Nat.le_of_ble_eq_true rfl), ⟨(Nat.le_of_ble_eq_true rfl), (Nat.le_of_ble_eq_true rfl)⟩, ⟨(Nat.le_of_ble_eq_true rfl), (Nat.le_of_ble_eq_true rfl)⟩, rfl, rfl⟩ rfl (mw_h (sBeg 2 5 σ) th fl dv) rfl dX11_lays_42) (fun r u H locs hp hw => ?_)
    obtain ⟨h8, h9'⟩ := hp
    have h8 := h8.symm
    have h9' := h9'.symm
    subst h8
    subst h9'
    refine lv_istore (lv' := [(4, .int (nI (layW (s_z σ k) pl))), (0, .ref (M 0)), (1, .int (nI i)), (2, .int (nI k)), (3, .int pl)]) cx.x cx.b dX11_lays_45 hl (by decide) rfl (fun ls hl => ?_)
    refine lv_iload cx.x cx.b dX11_lays_47 (lv_at hl 0 rfl) ?_
    by_cases he : layW (s_z σ k) pl = 0
    · rw [lay0_p (σ := sBeg 2 5 σ) he] at hw
      refine lv_if_le (tgt := 57) cx.x cx.b dX11_lays_49 (by decide) (fun hb49 => ?_) (fun hb49 => absurd (by rw [he]; decide) hb49)
      refine lv_aload_n cx.x cx.b dX11_lays_57 rfl (lv_at hl 1 rfl) ?_
      refine lv_iload_n cx.x cx.b dX11_lays_58 rfl (lv_at hl 2 rfl) ?_
      refine lv_iload_n cx.x cx.b dX11_lays_59 rfl (lv_at hl 3 rfl) ?_
      refine lv_iload_n cx.x cx.b dX11_lays_60 rfl (lv_at hl 4 rfl) ?_
      refine lv_iconst (v := 1) cx.x cx.b dX11_lays_61 (by decide) ?_
      refine lv_iadd cx.x cx.b dX11_lays_62 ?_
      refine cgo_i cx hw (rV_i (q0 := 0) (n := 3) (As := [.int (nI i), .int (nI k), .int (pl + 1)]) (rest := []) cx hw (c_X11_plainLay l D M Q (pL0 i k pl (sBeg 2 5 σ)) th fl dv i hi (by show s_N σ + 1 + 1 + 1 < 2 ^ 30; omega) k hk hz (pl + 1)) (gd_V tw_879 tw_881 ts_16 tw_4 tw_882) rfl ⟨by decide +kernel, rfl, hl.1, (Nat.le_of_ble_eq_true rfl), ⟨(Nat.le_of_ble_eq_true rfl), (Nat.le_of_ble_eq_true rfl)⟩, ⟨(Nat.le_of_ble_eq_true rfl), (Nat.le_of_ble_eq_true rfl)⟩, rfl, rfl⟩ rfl (mw_h (pL0 i k pl (sBeg 2 5 σ)) th fl dv) rfl dX11_lays_63) (fun r u H locs hp hw => ?_)
      obtain ⟨h8, h9'⟩ := hp
      have h8 := h8.symm
      have h9' := h9'.symm
      subst h8
      subst h9'
      exact ret_i (lay0 i k (pl + 1) (pL0 i k pl (sBeg 2 5 σ)), th, fl, dv) cx hw ⟨by rw [wLay_5p he]; rfl, by rw [sLay_5p he]⟩ dX11_lays_66 (Nat.le_of_ble_eq_true rfl) (Nat.le_of_ble_eq_true rfl)
    · refine lv_if_le (tgt := 57) cx.x cx.b dX11_lays_49 (by decide) (fun hb49 => absurd hb49 (nI_nle (by omega) (by have := @layW_le (s_z σ k) pl; omega))) (fun hb49 => ?_)
      refine lv_iload cx.x cx.b dX11_lays_52 (lv_at hl 0 rfl) ?_
      refine lv_goto (tgt := 66) cx.x cx.b dX11_lays_54 (by decide) ?_
      exact ret_i (lay0 i k pl (sBeg 2 5 σ), th, fl, dv) cx hw ⟨by rw [wLay_5n he], by rw [sLay_5n he, lay0_n (σ := sBeg 2 5 σ) he]⟩ dX11_lays_66 (Nat.le_of_ble_eq_true rfl) (Nat.le_of_ble_eq_true rfl)
  · refine lv_aload_n cx.x cx.b dX11_lays_0 rfl (lv_at hl 0 rfl) ?_
    refine gt_f (v := .ref (M 1)) cx hw 0 (mw_h σ th fl dv) rfl inX11 2 (by decide) tw_759 ⟨rfl, rfl, Or.inl rfl⟩ rfl dX11_lays_1 ?_
    refine lv_iload_n cx.x cx.b dX11_lays_4 rfl (lv_at hl 1 rfl) ?_
    refine ald_i (f := (fun x9 => nI (s_k σ x9))) cx hw 1 0 rfl rfl i rfl hi (by decide) dX11_lays_5 ?_
    rw [h9]
    refine lv_tableIn (tgt := 67) cx.x cx.b dX11_lays_6 (by decide) (by decide) rfl (by decide) ?_
    refine lv_aload_n cx.x cx.b dX11_lays_67 rfl (lv_at hl 0 rfl) ?_
    refine lv_iconst (v := 2) cx.x cx.b dX11_lays_68 (by decide) ?_
    refine lv_bipush (v := 6) cx.x cx.b dX11_lays_69 (by decide) ?_
    refine cgo_v cx hw (rV_v (q0 := 0) (n := 2) (As := [.int 2, .int 6]) (rest := []) cx hw (c_X11_begin l D M Q σ th fl dv (by show s_N σ < 2 ^ 30; omega) 2 6) (gd_V tw_847 tw_849 ts_10 tw_4 tw_850) rfl ⟨by decide +kernel, rfl, hl.1, (Nat.le_of_ble_eq_true rfl), ⟨(Nat.le_of_ble_eq_true rfl), (Nat.le_of_ble_eq_true rfl)⟩, ⟨(Nat.le_of_ble_eq_true rfl), (Nat.le_of_ble_eq_true rfl)⟩, rfl, rfl⟩ rfl (mw_h σ th fl dv) rfl dX11_lays_71) (fun u H locs hp hw => ?_)
    have hp := hp.symm
    subst hp
    refine lv_aload_n cx.x cx.b dX11_lays_74 rfl (lv_at hl 0 rfl) ?_
    refine lv_iload_n cx.x cx.b dX11_lays_75 rfl (lv_at hl 1 rfl) ?_
    refine lv_iload_n cx.x cx.b dX11_lays_76 rfl (lv_at hl 2 rfl) ?_
    refine lv_iload_n cx.x cx.b dX11_lays_77 rfl (lv_at hl 3 rfl) ?_
    refine lv_iconst (v := 2) cx.x cx.b dX11_lays_78 (by decide) ?_
    refine lv_idiv cx.x cx.b dX11_lays_79 (by decide) ?_
    refine cgo_i cx hw (rV_i (q0 := 0) (n := 3) (As := [.int (nI i), .int (nI k), .int (pl / 2)]) (rest := []) cx hw (c_X11_plainLay l D M Q (sBeg 2 6 σ) th fl dv i hi (by show s_N σ + 1 + 1 < 2 ^ 30; omega) k hk hz (pl / 2)) (gd_V tw_879 tw_881 ts_16 tw_4 tw_882) rfl ⟨by decide +kernel, rfl, hl.1, (Nat.le_of_ble_eq_true rfl), ⟨(Nat.le_of_ble_eq_true rfl), (Nat.le_of_ble_eq_true rfl)⟩, ⟨(Nat.le_of_ble_eq_true rfl), (Nat.le_of_ble_eq_true rfl)⟩, rfl, rfl⟩ rfl (mw_h (sBeg 2 6 σ) th fl dv) rfl dX11_lays_80) (fun r u H locs hp hw => ?_)
    obtain ⟨h8, h9'⟩ := hp
    have h8 := h8.symm
    have h9' := h9'.symm
    subst h8
    subst h9'
    exact ret_i (lay0 i k (pl / 2) (sBeg 2 6 σ), th, fl, dv) cx hw ⟨by rw [wLay_6]; rfl, by rw [sLay_6]⟩ dX11_lays_83 (Nat.le_of_ble_eq_true rfl) (Nat.le_of_ble_eq_true rfl)
  · refine lv_aload_n cx.x cx.b dX11_lays_0 rfl (lv_at hl 0 rfl) ?_
    refine gt_f (v := .ref (M 1)) cx hw 0 (mw_h σ th fl dv) rfl inX11 2 (by decide) tw_759 ⟨rfl, rfl, Or.inl rfl⟩ rfl dX11_lays_1 ?_
    refine lv_iload_n cx.x cx.b dX11_lays_4 rfl (lv_at hl 1 rfl) ?_
    refine ald_i (f := (fun x9 => nI (s_k σ x9))) cx hw 1 0 rfl rfl i rfl hi (by decide) dX11_lays_5 ?_
    rw [h9]
    refine lv_tableIn (tgt := 84) cx.x cx.b dX11_lays_6 (by decide) (by decide) rfl (by decide) ?_
    refine lv_aload_n cx.x cx.b dX11_lays_84 rfl (lv_at hl 0 rfl) ?_
    refine lv_iconst (v := 2) cx.x cx.b dX11_lays_85 (by decide) ?_
    refine lv_bipush (v := 7) cx.x cx.b dX11_lays_86 (by decide) ?_
    refine cgo_v cx hw (rV_v (q0 := 0) (n := 2) (As := [.int 2, .int 7]) (rest := []) cx hw (c_X11_begin l D M Q σ th fl dv (by show s_N σ < 2 ^ 30; omega) 2 7) (gd_V tw_847 tw_849 ts_10 tw_4 tw_850) rfl ⟨by decide +kernel, rfl, hl.1, (Nat.le_of_ble_eq_true rfl), ⟨(Nat.le_of_ble_eq_true rfl), (Nat.le_of_ble_eq_true rfl)⟩, ⟨(Nat.le_of_ble_eq_true rfl), (Nat.le_of_ble_eq_true rfl)⟩, rfl, rfl⟩ rfl (mw_h σ th fl dv) rfl dX11_lays_88) (fun u H locs hp hw => ?_)
    have hp := hp.symm
    subst hp
    refine lv_aload_n cx.x cx.b dX11_lays_91 rfl (lv_at hl 0 rfl) ?_
    refine lv_iload_n cx.x cx.b dX11_lays_92 rfl (lv_at hl 1 rfl) ?_
    refine cgo_v cx hw (rV_v (q0 := 0) (n := 1) (As := [.int (nI i)]) (rest := []) cx hw (c_X11_folds l D M Q (sBeg 2 7 σ) th fl dv i hi (by show s_N σ + 1 + 3 < 2 ^ 30; omega) hd) (gd_V tw_863 tw_865 ts_13 tw_4 tw_866) rfl ⟨by decide +kernel, rfl, hl.1, (Nat.le_of_ble_eq_true rfl), ⟨(Nat.le_of_ble_eq_true rfl), (Nat.le_of_ble_eq_true rfl)⟩, ⟨(Nat.le_of_ble_eq_true rfl), (Nat.le_of_ble_eq_true rfl)⟩, rfl, rfl⟩ rfl (mw_h (sBeg 2 7 σ) th fl dv) rfl dX11_lays_93) (fun u H locs hp hw => ?_)
    rw [show s_k (sBeg 2 7 σ) i = 7 from h9] at hp
    have hp := hp.symm
    subst hp
    have hw : Wd D cls A s H locs (mw M Q (pF4 i (sBeg 2 7 σ), th, fl, dv)) := hw
    refine lv_aload_n cx.x cx.b dX11_lays_96 rfl (lv_at hl 0 rfl) ?_
    refine lv_iload_n cx.x cx.b dX11_lays_97 rfl (lv_at hl 1 rfl) ?_
    refine lv_iload_n cx.x cx.b dX11_lays_98 rfl (lv_at hl 2 rfl) ?_
    refine lv_iload_n cx.x cx.b dX11_lays_99 rfl (lv_at hl 3 rfl) ?_
    refine cgo_i cx hw (rV_i (q0 := 0) (n := 3) (As := [.int (nI i), .int (nI k), .int pl]) (rest := []) cx hw (c_X11_plainLay l D M Q (pF4 i (sBeg 2 7 σ)) th fl dv i hi (by show s_N σ + 1 + 1 + 1 + 1 < 2 ^ 30; omega) k hk hz pl) (gd_V tw_879 tw_881 ts_16 tw_4 tw_882) rfl ⟨by decide +kernel, rfl, hl.1, (Nat.le_of_ble_eq_true rfl), ⟨(Nat.le_of_ble_eq_true rfl), (Nat.le_of_ble_eq_true rfl)⟩, ⟨(Nat.le_of_ble_eq_true rfl), (Nat.le_of_ble_eq_true rfl)⟩, rfl, rfl⟩ rfl (mw_h (pF4 i (sBeg 2 7 σ)) th fl dv) rfl dX11_lays_100) (fun r u H locs hp hw => ?_)
    obtain ⟨h8, h9'⟩ := hp
    have h8 := h8.symm
    have h9' := h9'.symm
    subst h8
    subst h9'
    exact ret_i (lay0 i k pl (pF4 i (sBeg 2 7 σ)), th, fl, dv) cx hw ⟨by rw [wLay_o (by decide) (by decide)]; rfl, by rw [sLay_7]⟩ dX11_lays_103 (Nat.le_of_ble_eq_true rfl) (Nat.le_of_ble_eq_true rfl)
set_option maxHeartbeats 4000000 in
set_option maxRecDepth 100000 in
theorem c_X11_isLoaf (l : Launch) (D : va_G) (M : Nat → Nat) (Q : Nat → ClassId) (σ : St) (th fl dv : Int32) (lo : Int32) : MI l yX11_isLoaf cX11_isLoaf 2 .boolean ({ frames := 1, cells := 0, slots := 0, locals := 22 }) D cls (tyl Q) [.ref (M 0), .int lo] (mw M Q) (mw M Q (σ, th, fl, dv)) (fun r u => r = wth lo 0 (nI (s_n σ) - 1) ∧ u = (σ, th, fl, dv)) 0 0 := by
  refine MI_of (by decide) (Nat.le_of_ble_eq_true rfl) ?_
  intro p e s m args below meth c A ls cx hw hl
  have hl : lv_has ls 2 [(0, .ref (M 0)), (1, .int lo)] := hl
  refine lv_iload_n cx.x cx.b dX11_isLoaf_0 rfl (lv_at hl 1 rfl) ?_
  refine lv_iconst (v := 0) cx.x cx.b dX11_isLoaf_1 (by decide) ?_
  refine lv_aload_n cx.x cx.b dX11_isLoaf_2 rfl (lv_at hl 0 rfl) ?_
  refine gt_f (v := .int (nI (s_n σ))) cx hw 0 (mw_h σ th fl dv) rfl inX11 1 (by decide) tw_758 ⟨rfl, rfl, Or.inl rfl⟩ rfl dX11_isLoaf_3 ?_
  refine lv_iconst (v := 1) cx.x cx.b dX11_isLoaf_6 (by decide) ?_
  refine lv_isub cx.x cx.b dX11_isLoaf_7 ?_
  refine cgo_i cx hw (rS_i (n := 3) (As := [.int lo, .int 0, .int ((nI (s_n σ)) - 1)]) (rest := []) cx hw (c_X11_within l D M Q σ th fl dv lo 0 ((nI (s_n σ)) - 1)) (gd_S tw_817 tw_818 tw_4 tw_819) ⟨by decide +kernel, rfl, hl.1, (Nat.le_of_ble_eq_true rfl), ⟨(Nat.le_of_ble_eq_true rfl), (Nat.le_of_ble_eq_true rfl)⟩, ⟨(Nat.le_of_ble_eq_true rfl), (Nat.le_of_ble_eq_true rfl)⟩, rfl, rfl⟩ rfl dX11_isLoaf_8) (fun r u H locs hp hw => ?_)
  obtain ⟨h8, h9⟩ := hp
  have h8 := h8.symm
  have h9 := h9.symm
  subst h8
  subst h9
  exact ret_z (σ, th, fl, dv) cx hw wth_nar ⟨rfl, rfl⟩ dX11_isLoaf_11 (Nat.le_of_ble_eq_true rfl) (Nat.le_of_ble_eq_true rfl)
set_option maxHeartbeats 4000000 in
set_option maxRecDepth 100000 in
theorem c_X11_isShelf (l : Launch) (D : va_G) (M : Nat → Nat) (Q : Nat → ClassId) (σ : St) (th fl dv : Int32) (ks : Int32) : MI l yX11_isShelf cX11_isShelf 1 .boolean ({ frames := 1, cells := 0, slots := 0, locals := 22 }) D cls (tyl Q) [.int ks] (mw M Q) (mw M Q (σ, th, fl, dv)) (fun r u => r = wth ks 0 3 ∧ u = (σ, th, fl, dv)) 0 0 := by
  refine MI_of (by decide) (Nat.le_of_ble_eq_true rfl) ?_
  intro p e s m args below meth c A ls cx hw hl
  have hl : lv_has ls 1 [(0, .int ks)] := hl
  refine lv_iload_n cx.x cx.b dX11_isShelf_0 rfl (lv_at hl 0 rfl) ?_
  refine lv_iconst (v := 0) cx.x cx.b dX11_isShelf_1 (by decide) ?_
  refine lv_iconst (v := 3) cx.x cx.b dX11_isShelf_2 (by decide) ?_
  refine cgo_i cx hw (rS_i (n := 3) (As := [.int ks, .int 0, .int 3]) (rest := []) cx hw (c_X11_within l D M Q σ th fl dv ks 0 3) (gd_S tw_817 tw_818 tw_4 tw_819) ⟨by decide +kernel, rfl, hl.1, (Nat.le_of_ble_eq_true rfl), ⟨(Nat.le_of_ble_eq_true rfl), (Nat.le_of_ble_eq_true rfl)⟩, ⟨(Nat.le_of_ble_eq_true rfl), (Nat.le_of_ble_eq_true rfl)⟩, rfl, rfl⟩ rfl dX11_isShelf_3) (fun r u H locs hp hw => ?_)
  obtain ⟨h8, h9⟩ := hp
  have h8 := h8.symm
  have h9 := h9.symm
  subst h8
  subst h9
  exact ret_z (σ, th, fl, dv) cx hw wth_nar ⟨rfl, rfl⟩ dX11_isShelf_6 (Nat.le_of_ble_eq_true rfl) (Nat.le_of_ble_eq_true rfl)
set_option maxHeartbeats 4000000 in
set_option maxRecDepth 100000 in
theorem c_X11_isSold (l : Launch) (D : va_G) (M : Nat → Nat) (Q : Nat → ClassId) (σ : St) (th fl dv : Int32) (i : Nat) (hi : i < 20) : MI l yX11_isSold cX11_isSold 2 .boolean ({ frames := 1, cells := 0, slots := 0, locals := 22 }) D cls (tyl Q) [.ref (M 0), .int (nI i)] (mw M Q) (mw M Q (σ, th, fl, dv)) (fun r u => r = wth (nI (s_k σ i)) 4 7 ∧ u = (σ, th, fl, dv)) 0 0 := by
  refine MI_of (by decide) (Nat.le_of_ble_eq_true rfl) ?_
  intro p e s m args below meth c A ls cx hw hl
  have hl : lv_has ls 2 [(0, .ref (M 0)), (1, .int (nI i))] := hl
  refine lv_aload_n cx.x cx.b dX11_isSold_0 rfl (lv_at hl 0 rfl) ?_
  refine gt_f (v := .ref (M 1)) cx hw 0 (mw_h σ th fl dv) rfl inX11 2 (by decide) tw_759 ⟨rfl, rfl, Or.inl rfl⟩ rfl dX11_isSold_1 ?_
  refine lv_iload_n cx.x cx.b dX11_isSold_4 rfl (lv_at hl 1 rfl) ?_
  refine ald_i (f := (fun x9 => nI (s_k σ x9))) cx hw 1 0 rfl rfl i rfl hi (by decide) dX11_isSold_5 ?_
  refine lv_iconst (v := 4) cx.x cx.b dX11_isSold_6 (by decide) ?_
  refine lv_bipush (v := 7) cx.x cx.b dX11_isSold_7 (by decide) ?_
  refine cgo_i cx hw (rS_i (n := 3) (As := [.int (nI (s_k σ i)), .int 4, .int 7]) (rest := []) cx hw (c_X11_within l D M Q σ th fl dv (nI (s_k σ i)) 4 7) (gd_S tw_817 tw_818 tw_4 tw_819) ⟨by decide +kernel, rfl, hl.1, (Nat.le_of_ble_eq_true rfl), ⟨(Nat.le_of_ble_eq_true rfl), (Nat.le_of_ble_eq_true rfl)⟩, ⟨(Nat.le_of_ble_eq_true rfl), (Nat.le_of_ble_eq_true rfl)⟩, rfl, rfl⟩ rfl dX11_isSold_9) (fun r u H locs hp hw => ?_)
  obtain ⟨h8, h9⟩ := hp
  have h8 := h8.symm
  have h9 := h9.symm
  subst h8
  subst h9
  exact ret_z (σ, th, fl, dv) cx hw wth_nar ⟨rfl, rfl⟩ dX11_isSold_12 (Nat.le_of_ble_eq_true rfl) (Nat.le_of_ble_eq_true rfl)
set_option maxHeartbeats 4000000 in
set_option maxRecDepth 100000 in
theorem c_X11_costOf (l : Launch) (D : va_G) (M : Nat → Nat) (Q : Nat → ClassId) (σ : St) (th fl dv : Int32) (i : Nat) (hi : i < 20) (hb : s_N σ + 3 < 2 ^ 30) (hd : s_k σ i < 8) : MI l yX11_costOf cX11_costOf 3 .int ({ frames := 3, cells := 0, slots := 0, locals := 64 }) D cls (tyl Q) [.ref (M 0), .int (nI i)] (mw M Q) (mw M Q (σ, th, fl, dv)) (fun r u => r = vCost (s_k σ i) i σ ∧ u = (rWorth (s_k σ i) i σ, th, fl, b01 (fWorth (s_k σ i) i σ))) 0 0 := by
  refine MI_of (by decide) (Nat.le_of_ble_eq_true rfl) ?_
  intro p e s m args below meth c A ls cx hw hl
  have hl : lv_has ls 3 [(0, .ref (M 0)), (1, .int (nI i))] := hl
  refine lv_aload_n cx.x cx.b dX11_costOf_0 rfl (lv_at hl 0 rfl) ?_
  refine lv_iload_n cx.x cx.b dX11_costOf_1 rfl (lv_at hl 1 rfl) ?_
  refine cgo_i cx hw (rV_i (q0 := 0) (n := 1) (As := [.int (nI i)]) (rest := []) cx hw (c_X11_worthOf l D M Q σ th fl dv i hi (by show s_N σ + 3 < 2 ^ 30; omega) hd) (gd_V tw_899 tw_901 ts_19 tw_4 tw_902) rfl ⟨by decide +kernel, rfl, hl.1, (Nat.le_of_ble_eq_true rfl), ⟨(Nat.le_of_ble_eq_true rfl), (Nat.le_of_ble_eq_true rfl)⟩, ⟨(Nat.le_of_ble_eq_true rfl), (Nat.le_of_ble_eq_true rfl)⟩, rfl, rfl⟩ rfl (mw_h σ th fl dv) rfl dX11_costOf_2) (fun r u H locs hp hw => ?_)
  obtain ⟨h8, h9⟩ := hp
  have h8 := h8.symm
  have h9 := h9.symm
  subst h8
  subst h9
  refine lv_istore_n (lv' := [(2, .int (vWorth (s_k σ i) i σ)), (0, .ref (M 0)), (1, .int (nI i))]) cx.x cx.b dX11_costOf_5 rfl hl (by decide) rfl (fun ls hl => ?_)
  refine lv_aload_n cx.x cx.b dX11_costOf_6 rfl (lv_at hl 1 rfl) ?_
  refine gt_f (v := .ref (M 1)) cx hw 0 (mw_h (rWorth (s_k σ i) i σ) th fl (b01 (fWorth (s_k σ i) i σ))) rfl inX11 2 (by decide) tw_759 ⟨rfl, rfl, Or.inl rfl⟩ rfl dX11_costOf_7 ?_
  refine lv_iload_n cx.x cx.b dX11_costOf_10 rfl (lv_at hl 2 rfl) ?_
  refine ald_i (f := (fun x9 => nI (s_k (rWorth (s_k σ i) i σ) x9))) cx hw 1 0 rfl rfl i rfl hi (by decide) dX11_costOf_11 ?_
  rw [(geoW (s_k σ i) i σ).2.1]
  refine lv_iconst (v := 5) cx.x cx.b dX11_costOf_12 (by decide) ?_
  refine lv_icmp_ne (tgt := 23) cx.x cx.b dX11_costOf_13 (by decide) (fun hb13 => ?_) (fun hb13 => ?_)
  · refine lv_iload_n cx.x cx.b dX11_costOf_23 rfl (lv_at hl 0 rfl) ?_
    refine lv_iload_n cx.x cx.b dX11_costOf_24 rfl (lv_at hl 0 rfl) ?_
    refine lv_bipush (v := 10) cx.x cx.b dX11_costOf_25 (by decide) ?_
    refine lv_idiv cx.x cx.b dX11_costOf_27 (by decide) ?_
    refine lv_iadd cx.x cx.b dX11_costOf_28 ?_
    exact ret_i (rWorth (s_k σ i) i σ, th, fl, b01 (fWorth (s_k σ i) i σ)) cx hw ⟨(if_neg (fun h => hb13 ((k5 hd).mpr h))).symm, rfl⟩ dX11_costOf_29 (Nat.le_of_ble_eq_true rfl) (Nat.le_of_ble_eq_true rfl)
  · refine lv_iload_n cx.x cx.b dX11_costOf_16 rfl (lv_at hl 0 rfl) ?_
    refine lv_bipush (v := 7) cx.x cx.b dX11_costOf_17 (by decide) ?_
    refine lv_iadd cx.x cx.b dX11_costOf_19 ?_
    refine lv_goto (tgt := 29) cx.x cx.b dX11_costOf_20 (by decide) ?_
    exact ret_i (rWorth (s_k σ i) i σ, th, fl, b01 (fWorth (s_k σ i) i σ)) cx hw ⟨(if_pos ((k5 hd).mp hb13)).symm, rfl⟩ dX11_costOf_29 (Nat.le_of_ble_eq_true rfl) (Nat.le_of_ble_eq_true rfl)
set_option maxHeartbeats 4000000 in
set_option maxRecDepth 100000 in
theorem c_X11_rest (l : Launch) (D : va_G) (M : Nat → Nat) (Q : Nat → ClassId) (σ : St) (th fl dv : Int32) {b : Nat} (hI : Inv (b + 100) σ) (lo mi : Int32) : MI l yX11_rest cX11_rest 4 .int ({ frames := 5, cells := 0, slots := 0, locals := 110 }) D cls (tyl Q) [.ref (M 0), .int lo, .int mi] (mw M Q) (mw M Q (σ, th, fl, dv)) (okM (aRest σ lo mi)) 0 0 := by
  refine MI_of (by decide) (Nat.le_of_ble_eq_true rfl) ?_
  intro p e s m args below meth c A ls cx hw hl
  have hl : lv_has ls 4 [(0, .ref (M 0)), (1, .int lo), (2, .int mi)] := hl
  have hN9 := hI.n
  have hb9 : s_N σ + 100 < 2 ^ 30 := by have := hI.2.2.2.2.1; omega
  by_cases hv : okL σ lo
  · obtain ⟨i, hn, rfl⟩ := okL_i hN9 hv
    have hd := hI.k hn
    have hi : i < 20 := by omega
    by_cases hm : w600 mi
    · by_cases g1 : fRest (s_k σ i) i mi σ
      · refine lv_aload_n cx.x cx.b dX11_rest_0 rfl (lv_at hl 0 rfl) ?_
        refine lv_iconst (v := 0) cx.x cx.b dX11_rest_1 (by decide) ?_
        refine pt_f cx hw 0 (mw_h σ th fl dv) rfl inX11 tyX11 tyX11_ok nmX11 0 (by decide) tw_757 ⟨rfl, rfl, Or.inl rfl⟩ rfl rfl rfl rfl (Nat.le_of_ble_eq_true rfl) dX11_rest_2 (w1 := mw M Q (σ, 0, fl, dv)) mw_p0 (fun H locs hw => ?_)
        refine lv_aload_n cx.x cx.b dX11_rest_5 rfl (lv_at hl 0 rfl) ?_
        refine lv_iload_n cx.x cx.b dX11_rest_6 rfl (lv_at hl 1 rfl) ?_
        refine cgo_i cx hw (rV_i (q0 := 0) (n := 1) (As := [.int (nI i)]) (rest := []) cx hw (c_X11_isLoaf l D M Q σ 0 fl dv (nI i)) (gd_V tw_835 tw_837 ts_7 tw_4 tw_838) rfl ⟨by decide +kernel, rfl, hl.1, (Nat.le_of_ble_eq_true rfl), ⟨(Nat.le_of_ble_eq_true rfl), (Nat.le_of_ble_eq_true rfl)⟩, ⟨(Nat.le_of_ble_eq_true rfl), (Nat.le_of_ble_eq_true rfl)⟩, rfl, rfl⟩ rfl (mw_h σ 0 fl dv) rfl dX11_rest_7) (fun r u H locs hp hw => ?_)
        obtain ⟨h8, h9⟩ := hp
        have h8 := h8.symm
        have h9 := h9.symm
        subst h8
        subst h9
        refine lv_if_ne (tgt := 16) cx.x cx.b dX11_rest_10 (by decide) (fun hb10 => ?_) (fun hb10 => absurd hv ((isL hN9).mp hb10))
        refine lv_iload_n cx.x cx.b dX11_rest_16 rfl (lv_at hl 2 rfl) ?_
        refine lv_iconst (v := 0) cx.x cx.b dX11_rest_17 (by decide) ?_
        refine lv_sipush (v := 600) cx.x cx.b dX11_rest_18 (by decide) ?_
        refine cgo_i cx hw (rS_i (n := 3) (As := [.int mi, .int 0, .int 600]) (rest := []) cx hw (c_X11_within l D M Q σ 0 fl dv mi 0 600) (gd_S tw_817 tw_818 tw_4 tw_819) ⟨by decide +kernel, rfl, hl.1, (Nat.le_of_ble_eq_true rfl), ⟨(Nat.le_of_ble_eq_true rfl), (Nat.le_of_ble_eq_true rfl)⟩, ⟨(Nat.le_of_ble_eq_true rfl), (Nat.le_of_ble_eq_true rfl)⟩, rfl, rfl⟩ rfl dX11_rest_21) (fun r u H locs hp hw => ?_)
        obtain ⟨h8, h9⟩ := hp
        have h8 := h8.symm
        have h9 := h9.symm
        subst h8
        subst h9
        refine lv_if_ne (tgt := 30) cx.x cx.b dX11_rest_24 (by decide) (fun hb24 => ?_) (fun hb24 => absurd hb24 (by rw [wth_eq0]; exact fun h => h hm))
        refine lv_aload_n cx.x cx.b dX11_rest_30 rfl (lv_at hl 0 rfl) ?_
        refine lv_iload_n cx.x cx.b dX11_rest_31 rfl (lv_at hl 1 rfl) ?_
        refine lv_iload_n cx.x cx.b dX11_rest_32 rfl (lv_at hl 2 rfl) ?_
        refine cgo_i cx hw (rV_i (q0 := 0) (n := 2) (As := [.int (nI i), .int mi]) (rest := []) cx hw (c_X11_rests l D M Q σ 0 fl dv i hi (by show s_N σ + 4 < 2 ^ 30; omega) hd mi) (gd_V tw_839 tw_841 ts_8 tw_4 tw_842) rfl ⟨by decide +kernel, rfl, hl.1, (Nat.le_of_ble_eq_true rfl), ⟨(Nat.le_of_ble_eq_true rfl), (Nat.le_of_ble_eq_true rfl)⟩, ⟨(Nat.le_of_ble_eq_true rfl), (Nat.le_of_ble_eq_true rfl)⟩, rfl, rfl⟩ rfl (mw_h σ 0 fl dv) rfl dX11_rest_33) (fun r u H locs hp hw => ?_)
        obtain ⟨h8, h9⟩ := hp
        have h8 := h8.symm
        have h9 := h9.symm
        subst h8
        subst h9
        refine lv_istore_n (lv' := [(3, .int (s_F (rRest (s_k σ i) i mi σ) 4 i)), (0, .ref (M 0)), (1, .int (nI i)), (2, .int mi)]) cx.x cx.b dX11_rest_36 rfl hl (by decide) rfl (fun ls hl => ?_)
        refine lv_aload_n cx.x cx.b dX11_rest_37 rfl (lv_at hl 1 rfl) ?_
        refine lv_aload_n cx.x cx.b dX11_rest_38 rfl (lv_at hl 1 rfl) ?_
        refine gt_f (v := .int (b01 (fRest (s_k σ i) i mi σ))) cx hw 0 (mw_h (rRest (s_k σ i) i mi σ) 0 (b01 (fRest (s_k σ i) i mi σ)) dv) rfl inX11 15 (by decide) tw_772 ⟨rfl, rfl, Or.inl rfl⟩ rfl dX11_rest_39 ?_
        refine lv_if_eq (tgt := 49) cx.x cx.b dX11_rest_42 (by decide) (fun hb42 => absurd g1 (b01_eq0.mp hb42)) (fun hb42 => ?_)
        refine lv_iconst (v := 1) cx.x cx.b dX11_rest_45 (by decide) ?_
        refine lv_goto (tgt := 50) cx.x cx.b dX11_rest_46 (by decide) ?_
        refine pt_f cx hw 0 (mw_h (rRest (s_k σ i) i mi σ) 0 (b01 (fRest (s_k σ i) i mi σ)) dv) rfl inX11 tyX11 tyX11_ok nmX11 0 (by decide) tw_757 ⟨rfl, rfl, Or.inl rfl⟩ rfl rfl rfl rfl (Nat.le_of_ble_eq_true rfl) dX11_rest_50 (w1 := mw M Q (rRest (s_k σ i) i mi σ, 1, b01 (fRest (s_k σ i) i mi σ), dv)) mw_p0 (fun H locs hw => ?_)
        refine lv_aload_n cx.x cx.b dX11_rest_53 rfl (lv_at hl 1 rfl) ?_
        refine gt_f (v := .int (b01 (fRest (s_k σ i) i mi σ))) cx hw 0 (mw_h (rRest (s_k σ i) i mi σ) 1 (b01 (fRest (s_k σ i) i mi σ)) dv) rfl inX11 15 (by decide) tw_772 ⟨rfl, rfl, Or.inl rfl⟩ rfl dX11_rest_54 ?_
        refine lv_if_eq (tgt := 64) cx.x cx.b dX11_rest_57 (by decide) (fun hb57 => absurd g1 (b01_eq0.mp hb57)) (fun hb57 => ?_)
        refine lv_iconst (v := 0) cx.x cx.b dX11_rest_60 (by decide) ?_
        refine lv_goto (tgt := 65) cx.x cx.b dX11_rest_61 (by decide) ?_
        exact ret_i (rRest (s_k σ i) i mi σ, 1, b01 (fRest (s_k σ i) i mi σ), dv) cx hw (okM_1 (by unfold aRest; rw [if_pos hv, if_pos hm, cl20 hN9 hn, if_pos g1]) (by decide) rfl) dX11_rest_65 (Nat.le_of_ble_eq_true rfl) (Nat.le_of_ble_eq_true rfl)
      · refine lv_aload_n cx.x cx.b dX11_rest_0 rfl (lv_at hl 0 rfl) ?_
        refine lv_iconst (v := 0) cx.x cx.b dX11_rest_1 (by decide) ?_
        refine pt_f cx hw 0 (mw_h σ th fl dv) rfl inX11 tyX11 tyX11_ok nmX11 0 (by decide) tw_757 ⟨rfl, rfl, Or.inl rfl⟩ rfl rfl rfl rfl (Nat.le_of_ble_eq_true rfl) dX11_rest_2 (w1 := mw M Q (σ, 0, fl, dv)) mw_p0 (fun H locs hw => ?_)
        refine lv_aload_n cx.x cx.b dX11_rest_5 rfl (lv_at hl 0 rfl) ?_
        refine lv_iload_n cx.x cx.b dX11_rest_6 rfl (lv_at hl 1 rfl) ?_
        refine cgo_i cx hw (rV_i (q0 := 0) (n := 1) (As := [.int (nI i)]) (rest := []) cx hw (c_X11_isLoaf l D M Q σ 0 fl dv (nI i)) (gd_V tw_835 tw_837 ts_7 tw_4 tw_838) rfl ⟨by decide +kernel, rfl, hl.1, (Nat.le_of_ble_eq_true rfl), ⟨(Nat.le_of_ble_eq_true rfl), (Nat.le_of_ble_eq_true rfl)⟩, ⟨(Nat.le_of_ble_eq_true rfl), (Nat.le_of_ble_eq_true rfl)⟩, rfl, rfl⟩ rfl (mw_h σ 0 fl dv) rfl dX11_rest_7) (fun r u H locs hp hw => ?_)
        obtain ⟨h8, h9⟩ := hp
        have h8 := h8.symm
        have h9 := h9.symm
        subst h8
        subst h9
        refine lv_if_ne (tgt := 16) cx.x cx.b dX11_rest_10 (by decide) (fun hb10 => ?_) (fun hb10 => absurd hv ((isL hN9).mp hb10))
        refine lv_iload_n cx.x cx.b dX11_rest_16 rfl (lv_at hl 2 rfl) ?_
        refine lv_iconst (v := 0) cx.x cx.b dX11_rest_17 (by decide) ?_
        refine lv_sipush (v := 600) cx.x cx.b dX11_rest_18 (by decide) ?_
        refine cgo_i cx hw (rS_i (n := 3) (As := [.int mi, .int 0, .int 600]) (rest := []) cx hw (c_X11_within l D M Q σ 0 fl dv mi 0 600) (gd_S tw_817 tw_818 tw_4 tw_819) ⟨by decide +kernel, rfl, hl.1, (Nat.le_of_ble_eq_true rfl), ⟨(Nat.le_of_ble_eq_true rfl), (Nat.le_of_ble_eq_true rfl)⟩, ⟨(Nat.le_of_ble_eq_true rfl), (Nat.le_of_ble_eq_true rfl)⟩, rfl, rfl⟩ rfl dX11_rest_21) (fun r u H locs hp hw => ?_)
        obtain ⟨h8, h9⟩ := hp
        have h8 := h8.symm
        have h9 := h9.symm
        subst h8
        subst h9
        refine lv_if_ne (tgt := 30) cx.x cx.b dX11_rest_24 (by decide) (fun hb24 => ?_) (fun hb24 => absurd hb24 (by rw [wth_eq0]; exact fun h => h hm))
        refine lv_aload_n cx.x cx.b dX11_rest_30 rfl (lv_at hl 0 rfl) ?_
        refine lv_iload_n cx.x cx.b dX11_rest_31 rfl (lv_at hl 1 rfl) ?_
        refine lv_iload_n cx.x cx.b dX11_rest_32 rfl (lv_at hl 2 rfl) ?_
        refine cgo_i cx hw (rV_i (q0 := 0) (n := 2) (As := [.int (nI i), .int mi]) (rest := []) cx hw (c_X11_rests l D M Q σ 0 fl dv i hi (by show s_N σ + 4 < 2 ^ 30; omega) hd mi) (gd_V tw_839 tw_841 ts_8 tw_4 tw_842) rfl ⟨by decide +kernel, rfl, hl.1, (Nat.le_of_ble_eq_true rfl), ⟨(Nat.le_of_ble_eq_true rfl), (Nat.le_of_ble_eq_true rfl)⟩, ⟨(Nat.le_of_ble_eq_true rfl), (Nat.le_of_ble_eq_true rfl)⟩, rfl, rfl⟩ rfl (mw_h σ 0 fl dv) rfl dX11_rest_33) (fun r u H locs hp hw => ?_)
        obtain ⟨h8, h9⟩ := hp
        have h8 := h8.symm
        have h9 := h9.symm
        subst h8
        subst h9
        refine lv_istore_n (lv' := [(3, .int (s_F (rRest (s_k σ i) i mi σ) 4 i)), (0, .ref (M 0)), (1, .int (nI i)), (2, .int mi)]) cx.x cx.b dX11_rest_36 rfl hl (by decide) rfl (fun ls hl => ?_)
        refine lv_aload_n cx.x cx.b dX11_rest_37 rfl (lv_at hl 1 rfl) ?_
        refine lv_aload_n cx.x cx.b dX11_rest_38 rfl (lv_at hl 1 rfl) ?_
        refine gt_f (v := .int (b01 (fRest (s_k σ i) i mi σ))) cx hw 0 (mw_h (rRest (s_k σ i) i mi σ) 0 (b01 (fRest (s_k σ i) i mi σ)) dv) rfl inX11 15 (by decide) tw_772 ⟨rfl, rfl, Or.inl rfl⟩ rfl dX11_rest_39 ?_
        refine lv_if_eq (tgt := 49) cx.x cx.b dX11_rest_42 (by decide) (fun hb42 => ?_) (fun hb42 => absurd (b01_eq0.mpr g1) hb42)
        refine lv_iconst (v := 0) cx.x cx.b dX11_rest_49 (by decide) ?_
        refine pt_f cx hw 0 (mw_h (rRest (s_k σ i) i mi σ) 0 (b01 (fRest (s_k σ i) i mi σ)) dv) rfl inX11 tyX11 tyX11_ok nmX11 0 (by decide) tw_757 ⟨rfl, rfl, Or.inl rfl⟩ rfl rfl rfl rfl (Nat.le_of_ble_eq_true rfl) dX11_rest_50 (w1 := mw M Q (rRest (s_k σ i) i mi σ, 0, b01 (fRest (s_k σ i) i mi σ), dv)) mw_p0 (fun H locs hw => ?_)
        refine lv_aload_n cx.x cx.b dX11_rest_53 rfl (lv_at hl 1 rfl) ?_
        refine gt_f (v := .int (b01 (fRest (s_k σ i) i mi σ))) cx hw 0 (mw_h (rRest (s_k σ i) i mi σ) 0 (b01 (fRest (s_k σ i) i mi σ)) dv) rfl inX11 15 (by decide) tw_772 ⟨rfl, rfl, Or.inl rfl⟩ rfl dX11_rest_54 ?_
        refine lv_if_eq (tgt := 64) cx.x cx.b dX11_rest_57 (by decide) (fun hb57 => ?_) (fun hb57 => absurd (b01_eq0.mpr g1) hb57)
        refine lv_iload_n cx.x cx.b dX11_rest_64 rfl (lv_at hl 0 rfl) ?_
        exact ret_i (rRest (s_k σ i) i mi σ, 0, b01 (fRest (s_k σ i) i mi σ), dv) cx hw (okM_0 (by unfold aRest; rw [if_pos hv, if_pos hm, cl20 hN9 hn, if_neg g1])) dX11_rest_65 (Nat.le_of_ble_eq_true rfl) (Nat.le_of_ble_eq_true rfl)
    · refine lv_aload_n cx.x cx.b dX11_rest_0 rfl (lv_at hl 0 rfl) ?_
      refine lv_iconst (v := 0) cx.x cx.b dX11_rest_1 (by decide) ?_
      refine pt_f cx hw 0 (mw_h σ th fl dv) rfl inX11 tyX11 tyX11_ok nmX11 0 (by decide) tw_757 ⟨rfl, rfl, Or.inl rfl⟩ rfl rfl rfl rfl (Nat.le_of_ble_eq_true rfl) dX11_rest_2 (w1 := mw M Q (σ, 0, fl, dv)) mw_p0 (fun H locs hw => ?_)
      refine lv_aload_n cx.x cx.b dX11_rest_5 rfl (lv_at hl 0 rfl) ?_
      refine lv_iload_n cx.x cx.b dX11_rest_6 rfl (lv_at hl 1 rfl) ?_
      refine cgo_i cx hw (rV_i (q0 := 0) (n := 1) (As := [.int (nI i)]) (rest := []) cx hw (c_X11_isLoaf l D M Q σ 0 fl dv (nI i)) (gd_V tw_835 tw_837 ts_7 tw_4 tw_838) rfl ⟨by decide +kernel, rfl, hl.1, (Nat.le_of_ble_eq_true rfl), ⟨(Nat.le_of_ble_eq_true rfl), (Nat.le_of_ble_eq_true rfl)⟩, ⟨(Nat.le_of_ble_eq_true rfl), (Nat.le_of_ble_eq_true rfl)⟩, rfl, rfl⟩ rfl (mw_h σ 0 fl dv) rfl dX11_rest_7) (fun r u H locs hp hw => ?_)
      obtain ⟨h8, h9⟩ := hp
      have h8 := h8.symm
      have h9 := h9.symm
      subst h8
      subst h9
      refine lv_if_ne (tgt := 16) cx.x cx.b dX11_rest_10 (by decide) (fun hb10 => ?_) (fun hb10 => absurd hv ((isL hN9).mp hb10))
      refine lv_iload_n cx.x cx.b dX11_rest_16 rfl (lv_at hl 2 rfl) ?_
      refine lv_iconst (v := 0) cx.x cx.b dX11_rest_17 (by decide) ?_
      refine lv_sipush (v := 600) cx.x cx.b dX11_rest_18 (by decide) ?_
      refine cgo_i cx hw (rS_i (n := 3) (As := [.int mi, .int 0, .int 600]) (rest := []) cx hw (c_X11_within l D M Q σ 0 fl dv mi 0 600) (gd_S tw_817 tw_818 tw_4 tw_819) ⟨by decide +kernel, rfl, hl.1, (Nat.le_of_ble_eq_true rfl), ⟨(Nat.le_of_ble_eq_true rfl), (Nat.le_of_ble_eq_true rfl)⟩, ⟨(Nat.le_of_ble_eq_true rfl), (Nat.le_of_ble_eq_true rfl)⟩, rfl, rfl⟩ rfl dX11_rest_21) (fun r u H locs hp hw => ?_)
      obtain ⟨h8, h9⟩ := hp
      have h8 := h8.symm
      have h9 := h9.symm
      subst h8
      subst h9
      refine lv_if_ne (tgt := 30) cx.x cx.b dX11_rest_24 (by decide) (fun hb24 => absurd (wth_eq0.mpr hm) hb24) (fun hb24 => ?_)
      refine lv_bipush (v := (-102)) cx.x cx.b dX11_rest_27 (by decide) ?_
      exact ret_i (σ, 0, fl, dv) cx hw (okM_0 (by unfold aRest; rw [if_pos hv, if_neg hm])) dX11_rest_29 (Nat.le_of_ble_eq_true rfl) (Nat.le_of_ble_eq_true rfl)
  · refine lv_aload_n cx.x cx.b dX11_rest_0 rfl (lv_at hl 0 rfl) ?_
    refine lv_iconst (v := 0) cx.x cx.b dX11_rest_1 (by decide) ?_
    refine pt_f cx hw 0 (mw_h σ th fl dv) rfl inX11 tyX11 tyX11_ok nmX11 0 (by decide) tw_757 ⟨rfl, rfl, Or.inl rfl⟩ rfl rfl rfl rfl (Nat.le_of_ble_eq_true rfl) dX11_rest_2 (w1 := mw M Q (σ, 0, fl, dv)) mw_p0 (fun H locs hw => ?_)
    refine lv_aload_n cx.x cx.b dX11_rest_5 rfl (lv_at hl 0 rfl) ?_
    refine lv_iload_n cx.x cx.b dX11_rest_6 rfl (lv_at hl 1 rfl) ?_
    refine cgo_i cx hw (rV_i (q0 := 0) (n := 1) (As := [.int lo]) (rest := []) cx hw (c_X11_isLoaf l D M Q σ 0 fl dv lo) (gd_V tw_835 tw_837 ts_7 tw_4 tw_838) rfl ⟨by decide +kernel, rfl, hl.1, (Nat.le_of_ble_eq_true rfl), ⟨(Nat.le_of_ble_eq_true rfl), (Nat.le_of_ble_eq_true rfl)⟩, ⟨(Nat.le_of_ble_eq_true rfl), (Nat.le_of_ble_eq_true rfl)⟩, rfl, rfl⟩ rfl (mw_h σ 0 fl dv) rfl dX11_rest_7) (fun r u H locs hp hw => ?_)
    obtain ⟨h8, h9⟩ := hp
    have h8 := h8.symm
    have h9 := h9.symm
    subst h8
    subst h9
    refine lv_if_ne (tgt := 16) cx.x cx.b dX11_rest_10 (by decide) (fun hb10 => absurd ((isL hN9).mpr hv) hb10) (fun hb10 => ?_)
    refine lv_bipush (v := (-101)) cx.x cx.b dX11_rest_13 (by decide) ?_
    exact ret_i (σ, 0, fl, dv) cx hw (okM_0 (by unfold aRest; rw [if_neg hv])) dX11_rest_15 (Nat.le_of_ble_eq_true rfl) (Nat.le_of_ble_eq_true rfl)
set_option maxHeartbeats 4000000 in
set_option maxRecDepth 100000 in
theorem c_X11_fold (l : Launch) (D : va_G) (M : Nat → Nat) (Q : Nat → ClassId) (σ : St) (th fl dv : Int32) {b : Nat} (hI : Inv (b + 100) σ) (lo : Int32) : MI l yX11_fold cX11_fold 2 .int ({ frames := 3, cells := 0, slots := 0, locals := 64 }) D cls (tyl Q) [.ref (M 0), .int lo] (mw M Q) (mw M Q (σ, th, fl, dv)) (okM (aFold σ lo)) 0 0 := by
  refine MI_of (by decide) (Nat.le_of_ble_eq_true rfl) ?_
  intro p e s m args below meth c A ls cx hw hl
  have hl : lv_has ls 2 [(0, .ref (M 0)), (1, .int lo)] := hl
  have hN9 := hI.n
  have hb9 : s_N σ + 100 < 2 ^ 30 := by have := hI.2.2.2.2.1; omega
  by_cases hv : okL σ lo
  · obtain ⟨i, hn, rfl⟩ := okL_i hN9 hv
    have hd := hI.k hn
    have hi : i < 20 := by omega
    refine lv_aload_n cx.x cx.b dX11_fold_0 rfl (lv_at hl 0 rfl) ?_
    refine lv_iconst (v := 0) cx.x cx.b dX11_fold_1 (by decide) ?_
    refine pt_f cx hw 0 (mw_h σ th fl dv) rfl inX11 tyX11 tyX11_ok nmX11 0 (by decide) tw_757 ⟨rfl, rfl, Or.inl rfl⟩ rfl rfl rfl rfl (Nat.le_of_ble_eq_true rfl) dX11_fold_2 (w1 := mw M Q (σ, 0, fl, dv)) mw_p0 (fun H locs hw => ?_)
    refine lv_aload_n cx.x cx.b dX11_fold_5 rfl (lv_at hl 0 rfl) ?_
    refine lv_iload_n cx.x cx.b dX11_fold_6 rfl (lv_at hl 1 rfl) ?_
    refine cgo_i cx hw (rV_i (q0 := 0) (n := 1) (As := [.int (nI i)]) (rest := []) cx hw (c_X11_isLoaf l D M Q σ 0 fl dv (nI i)) (gd_V tw_835 tw_837 ts_7 tw_4 tw_838) rfl ⟨by decide +kernel, rfl, hl.1, (Nat.le_of_ble_eq_true rfl), ⟨(Nat.le_of_ble_eq_true rfl), (Nat.le_of_ble_eq_true rfl)⟩, ⟨(Nat.le_of_ble_eq_true rfl), (Nat.le_of_ble_eq_true rfl)⟩, rfl, rfl⟩ rfl (mw_h σ 0 fl dv) rfl dX11_fold_7) (fun r u H locs hp hw => ?_)
    obtain ⟨h8, h9⟩ := hp
    have h8 := h8.symm
    have h9 := h9.symm
    subst h8
    subst h9
    refine lv_if_ne (tgt := 16) cx.x cx.b dX11_fold_10 (by decide) (fun hb10 => ?_) (fun hb10 => absurd hv ((isL hN9).mp hb10))
    refine lv_aload_n cx.x cx.b dX11_fold_16 rfl (lv_at hl 0 rfl) ?_
    refine lv_iload_n cx.x cx.b dX11_fold_17 rfl (lv_at hl 1 rfl) ?_
    refine cgo_v cx hw (rV_v (q0 := 0) (n := 1) (As := [.int (nI i)]) (rest := []) cx hw (c_X11_folds l D M Q σ 0 fl dv i hi (by show s_N σ + 3 < 2 ^ 30; omega) hd) (gd_V tw_863 tw_865 ts_13 tw_4 tw_866) rfl ⟨by decide +kernel, rfl, hl.1, (Nat.le_of_ble_eq_true rfl), ⟨(Nat.le_of_ble_eq_true rfl), (Nat.le_of_ble_eq_true rfl)⟩, ⟨(Nat.le_of_ble_eq_true rfl), (Nat.le_of_ble_eq_true rfl)⟩, rfl, rfl⟩ rfl (mw_h σ 0 fl dv) rfl dX11_fold_18) (fun u H locs hp hw => ?_)
    have hp := hp.symm
    subst hp
    refine lv_aload_n cx.x cx.b dX11_fold_21 rfl (lv_at hl 0 rfl) ?_
    refine gt_f (v := .ref (M 4)) cx hw 0 (mw_h (rFold (s_k σ i) i σ) 0 fl dv) rfl inX11 5 (by decide) tw_762 ⟨rfl, rfl, Or.inl rfl⟩ rfl dX11_fold_22 ?_
    refine lv_iload_n cx.x cx.b dX11_fold_25 rfl (lv_at hl 1 rfl) ?_
    refine ald_i (f := (s_F (rFold (s_k σ i) i σ) 5)) cx hw 4 0 rfl rfl i rfl hi (by decide) dX11_fold_26 ?_
    exact ret_i (rFold (s_k σ i) i σ, 0, fl, dv) cx hw (okM_0 (by unfold aFold; rw [if_pos hv, cl20 hN9 hn])) dX11_fold_27 (Nat.le_of_ble_eq_true rfl) (Nat.le_of_ble_eq_true rfl)
  · refine lv_aload_n cx.x cx.b dX11_fold_0 rfl (lv_at hl 0 rfl) ?_
    refine lv_iconst (v := 0) cx.x cx.b dX11_fold_1 (by decide) ?_
    refine pt_f cx hw 0 (mw_h σ th fl dv) rfl inX11 tyX11 tyX11_ok nmX11 0 (by decide) tw_757 ⟨rfl, rfl, Or.inl rfl⟩ rfl rfl rfl rfl (Nat.le_of_ble_eq_true rfl) dX11_fold_2 (w1 := mw M Q (σ, 0, fl, dv)) mw_p0 (fun H locs hw => ?_)
    refine lv_aload_n cx.x cx.b dX11_fold_5 rfl (lv_at hl 0 rfl) ?_
    refine lv_iload_n cx.x cx.b dX11_fold_6 rfl (lv_at hl 1 rfl) ?_
    refine cgo_i cx hw (rV_i (q0 := 0) (n := 1) (As := [.int lo]) (rest := []) cx hw (c_X11_isLoaf l D M Q σ 0 fl dv lo) (gd_V tw_835 tw_837 ts_7 tw_4 tw_838) rfl ⟨by decide +kernel, rfl, hl.1, (Nat.le_of_ble_eq_true rfl), ⟨(Nat.le_of_ble_eq_true rfl), (Nat.le_of_ble_eq_true rfl)⟩, ⟨(Nat.le_of_ble_eq_true rfl), (Nat.le_of_ble_eq_true rfl)⟩, rfl, rfl⟩ rfl (mw_h σ 0 fl dv) rfl dX11_fold_7) (fun r u H locs hp hw => ?_)
    obtain ⟨h8, h9⟩ := hp
    have h8 := h8.symm
    have h9 := h9.symm
    subst h8
    subst h9
    refine lv_if_ne (tgt := 16) cx.x cx.b dX11_fold_10 (by decide) (fun hb10 => absurd ((isL hN9).mpr hv) hb10) (fun hb10 => ?_)
    refine lv_bipush (v := (-101)) cx.x cx.b dX11_fold_13 (by decide) ?_
    exact ret_i (σ, 0, fl, dv) cx hw (okM_0 (by unfold aFold; rw [if_neg hv])) dX11_fold_15 (Nat.le_of_ble_eq_true rfl) (Nat.le_of_ble_eq_true rfl)
set_option maxHeartbeats 4000000 in
set_option maxRecDepth 100000 in
theorem c_X11_bake (l : Launch) (D : va_G) (M : Nat → Nat) (Q : Nat → ClassId) (σ : St) (th fl dv : Int32) {b : Nat} (hI : Inv (b + 100) σ) (lo ht : Int32) : MI l yX11_bake cX11_bake 3 .int ({ frames := 3, cells := 0, slots := 0, locals := 67 }) D cls (tyl Q) [.ref (M 0), .int lo, .int ht] (mw M Q) (mw M Q (σ, th, fl, dv)) (okM (aBake σ lo ht)) 0 0 := by
  refine MI_of (by decide) (Nat.le_of_ble_eq_true rfl) ?_
  intro p e s m args below meth c A ls cx hw hl
  have hl : lv_has ls 3 [(0, .ref (M 0)), (1, .int lo), (2, .int ht)] := hl
  have hN9 := hI.n
  have hb9 : s_N σ + 100 < 2 ^ 30 := by have := hI.2.2.2.2.1; omega
  by_cases hv : okL σ lo
  · obtain ⟨i, hn, rfl⟩ := okL_i hN9 hv
    have hd := hI.k hn
    have hi : i < 20 := by omega
    by_cases hm : w400 ht
    · refine lv_aload_n cx.x cx.b dX11_bake_0 rfl (lv_at hl 0 rfl) ?_
      refine lv_iconst (v := 0) cx.x cx.b dX11_bake_1 (by decide) ?_
      refine pt_f cx hw 0 (mw_h σ th fl dv) rfl inX11 tyX11 tyX11_ok nmX11 0 (by decide) tw_757 ⟨rfl, rfl, Or.inl rfl⟩ rfl rfl rfl rfl (Nat.le_of_ble_eq_true rfl) dX11_bake_2 (w1 := mw M Q (σ, 0, fl, dv)) mw_p0 (fun H locs hw => ?_)
      refine lv_aload_n cx.x cx.b dX11_bake_5 rfl (lv_at hl 0 rfl) ?_
      refine lv_iload_n cx.x cx.b dX11_bake_6 rfl (lv_at hl 1 rfl) ?_
      refine cgo_i cx hw (rV_i (q0 := 0) (n := 1) (As := [.int (nI i)]) (rest := []) cx hw (c_X11_isLoaf l D M Q σ 0 fl dv (nI i)) (gd_V tw_835 tw_837 ts_7 tw_4 tw_838) rfl ⟨by decide +kernel, rfl, hl.1, (Nat.le_of_ble_eq_true rfl), ⟨(Nat.le_of_ble_eq_true rfl), (Nat.le_of_ble_eq_true rfl)⟩, ⟨(Nat.le_of_ble_eq_true rfl), (Nat.le_of_ble_eq_true rfl)⟩, rfl, rfl⟩ rfl (mw_h σ 0 fl dv) rfl dX11_bake_7) (fun r u H locs hp hw => ?_)
      obtain ⟨h8, h9⟩ := hp
      have h8 := h8.symm
      have h9 := h9.symm
      subst h8
      subst h9
      refine lv_if_ne (tgt := 16) cx.x cx.b dX11_bake_10 (by decide) (fun hb10 => ?_) (fun hb10 => absurd hv ((isL hN9).mp hb10))
      refine lv_iload_n cx.x cx.b dX11_bake_16 rfl (lv_at hl 2 rfl) ?_
      refine lv_iconst (v := 0) cx.x cx.b dX11_bake_17 (by decide) ?_
      refine lv_sipush (v := 400) cx.x cx.b dX11_bake_18 (by decide) ?_
      refine cgo_i cx hw (rS_i (n := 3) (As := [.int ht, .int 0, .int 400]) (rest := []) cx hw (c_X11_within l D M Q σ 0 fl dv ht 0 400) (gd_S tw_817 tw_818 tw_4 tw_819) ⟨by decide +kernel, rfl, hl.1, (Nat.le_of_ble_eq_true rfl), ⟨(Nat.le_of_ble_eq_true rfl), (Nat.le_of_ble_eq_true rfl)⟩, ⟨(Nat.le_of_ble_eq_true rfl), (Nat.le_of_ble_eq_true rfl)⟩, rfl, rfl⟩ rfl dX11_bake_21) (fun r u H locs hp hw => ?_)
      obtain ⟨h8, h9⟩ := hp
      have h8 := h8.symm
      have h9 := h9.symm
      subst h8
      subst h9
      refine lv_if_ne (tgt := 32) cx.x cx.b dX11_bake_24 (by decide) (fun hb24 => ?_) (fun hb24 => absurd hb24 (by rw [wth_eq0]; exact fun h => h hm))
      refine lv_aload_n cx.x cx.b dX11_bake_32 rfl (lv_at hl 0 rfl) ?_
      refine lv_iload_n cx.x cx.b dX11_bake_33 rfl (lv_at hl 1 rfl) ?_
      refine lv_iload_n cx.x cx.b dX11_bake_34 rfl (lv_at hl 2 rfl) ?_
      refine cgo_i cx hw (rV_i (q0 := 0) (n := 2) (As := [.int (nI i), .int ht]) (rest := []) cx hw (c_X11_bakes l D M Q σ 0 fl dv i hi (by show s_N σ + 3 < 2 ^ 30; omega) hd ht) (gd_V tw_887 tw_889 ts_17 tw_4 tw_890) rfl ⟨by decide +kernel, rfl, hl.1, (Nat.le_of_ble_eq_true rfl), ⟨(Nat.le_of_ble_eq_true rfl), (Nat.le_of_ble_eq_true rfl)⟩, ⟨(Nat.le_of_ble_eq_true rfl), (Nat.le_of_ble_eq_true rfl)⟩, rfl, rfl⟩ rfl (mw_h σ 0 fl dv) rfl dX11_bake_35) (fun r u H locs hp hw => ?_)
      obtain ⟨h8, h9⟩ := hp
      have h8 := h8.symm
      have h9 := h9.symm
      subst h8
      subst h9
      refine lv_if_eq (tgt := 45) cx.x cx.b dX11_bake_38 (by decide) (fun hb38 => ?_) (fun hb38 => ?_)
      · refine lv_iconst (v := 0) cx.x cx.b dX11_bake_45 (by decide) ?_
        exact ret_i (rBake (s_k σ i) i ht σ, 0, fl, dv) cx hw (okM_0 (by unfold aBake; rw [if_pos hv, if_pos hm, cl20 hN9 hn, hb38])) dX11_bake_46 (Nat.le_of_ble_eq_true rfl) (Nat.le_of_ble_eq_true rfl)
      · refine lv_iconst (v := 1) cx.x cx.b dX11_bake_41 (by decide) ?_
        refine lv_goto (tgt := 46) cx.x cx.b dX11_bake_42 (by decide) ?_
        exact ret_i (rBake (s_k σ i) i ht σ, 0, fl, dv) cx hw (okM_0 (by unfold aBake; rw [if_pos hv, if_pos hm, cl20 hN9 hn, vBake_or.resolve_left hb38])) dX11_bake_46 (Nat.le_of_ble_eq_true rfl) (Nat.le_of_ble_eq_true rfl)
    · refine lv_aload_n cx.x cx.b dX11_bake_0 rfl (lv_at hl 0 rfl) ?_
      refine lv_iconst (v := 0) cx.x cx.b dX11_bake_1 (by decide) ?_
      refine pt_f cx hw 0 (mw_h σ th fl dv) rfl inX11 tyX11 tyX11_ok nmX11 0 (by decide) tw_757 ⟨rfl, rfl, Or.inl rfl⟩ rfl rfl rfl rfl (Nat.le_of_ble_eq_true rfl) dX11_bake_2 (w1 := mw M Q (σ, 0, fl, dv)) mw_p0 (fun H locs hw => ?_)
      refine lv_aload_n cx.x cx.b dX11_bake_5 rfl (lv_at hl 0 rfl) ?_
      refine lv_iload_n cx.x cx.b dX11_bake_6 rfl (lv_at hl 1 rfl) ?_
      refine cgo_i cx hw (rV_i (q0 := 0) (n := 1) (As := [.int (nI i)]) (rest := []) cx hw (c_X11_isLoaf l D M Q σ 0 fl dv (nI i)) (gd_V tw_835 tw_837 ts_7 tw_4 tw_838) rfl ⟨by decide +kernel, rfl, hl.1, (Nat.le_of_ble_eq_true rfl), ⟨(Nat.le_of_ble_eq_true rfl), (Nat.le_of_ble_eq_true rfl)⟩, ⟨(Nat.le_of_ble_eq_true rfl), (Nat.le_of_ble_eq_true rfl)⟩, rfl, rfl⟩ rfl (mw_h σ 0 fl dv) rfl dX11_bake_7) (fun r u H locs hp hw => ?_)
      obtain ⟨h8, h9⟩ := hp
      have h8 := h8.symm
      have h9 := h9.symm
      subst h8
      subst h9
      refine lv_if_ne (tgt := 16) cx.x cx.b dX11_bake_10 (by decide) (fun hb10 => ?_) (fun hb10 => absurd hv ((isL hN9).mp hb10))
      refine lv_iload_n cx.x cx.b dX11_bake_16 rfl (lv_at hl 2 rfl) ?_
      refine lv_iconst (v := 0) cx.x cx.b dX11_bake_17 (by decide) ?_
      refine lv_sipush (v := 400) cx.x cx.b dX11_bake_18 (by decide) ?_
      refine cgo_i cx hw (rS_i (n := 3) (As := [.int ht, .int 0, .int 400]) (rest := []) cx hw (c_X11_within l D M Q σ 0 fl dv ht 0 400) (gd_S tw_817 tw_818 tw_4 tw_819) ⟨by decide +kernel, rfl, hl.1, (Nat.le_of_ble_eq_true rfl), ⟨(Nat.le_of_ble_eq_true rfl), (Nat.le_of_ble_eq_true rfl)⟩, ⟨(Nat.le_of_ble_eq_true rfl), (Nat.le_of_ble_eq_true rfl)⟩, rfl, rfl⟩ rfl dX11_bake_21) (fun r u H locs hp hw => ?_)
      obtain ⟨h8, h9⟩ := hp
      have h8 := h8.symm
      have h9 := h9.symm
      subst h8
      subst h9
      refine lv_if_ne (tgt := 32) cx.x cx.b dX11_bake_24 (by decide) (fun hb24 => absurd (wth_eq0.mpr hm) hb24) (fun hb24 => ?_)
      refine lv_bipush (v := (-102)) cx.x cx.b dX11_bake_27 (by decide) ?_
      refine lv_goto (tgt := 46) cx.x cx.b dX11_bake_29 (by decide) ?_
      exact ret_i (σ, 0, fl, dv) cx hw (okM_0 (by unfold aBake; rw [if_pos hv, if_neg hm])) dX11_bake_46 (Nat.le_of_ble_eq_true rfl) (Nat.le_of_ble_eq_true rfl)
  · refine lv_aload_n cx.x cx.b dX11_bake_0 rfl (lv_at hl 0 rfl) ?_
    refine lv_iconst (v := 0) cx.x cx.b dX11_bake_1 (by decide) ?_
    refine pt_f cx hw 0 (mw_h σ th fl dv) rfl inX11 tyX11 tyX11_ok nmX11 0 (by decide) tw_757 ⟨rfl, rfl, Or.inl rfl⟩ rfl rfl rfl rfl (Nat.le_of_ble_eq_true rfl) dX11_bake_2 (w1 := mw M Q (σ, 0, fl, dv)) mw_p0 (fun H locs hw => ?_)
    refine lv_aload_n cx.x cx.b dX11_bake_5 rfl (lv_at hl 0 rfl) ?_
    refine lv_iload_n cx.x cx.b dX11_bake_6 rfl (lv_at hl 1 rfl) ?_
    refine cgo_i cx hw (rV_i (q0 := 0) (n := 1) (As := [.int lo]) (rest := []) cx hw (c_X11_isLoaf l D M Q σ 0 fl dv lo) (gd_V tw_835 tw_837 ts_7 tw_4 tw_838) rfl ⟨by decide +kernel, rfl, hl.1, (Nat.le_of_ble_eq_true rfl), ⟨(Nat.le_of_ble_eq_true rfl), (Nat.le_of_ble_eq_true rfl)⟩, ⟨(Nat.le_of_ble_eq_true rfl), (Nat.le_of_ble_eq_true rfl)⟩, rfl, rfl⟩ rfl (mw_h σ 0 fl dv) rfl dX11_bake_7) (fun r u H locs hp hw => ?_)
    obtain ⟨h8, h9⟩ := hp
    have h8 := h8.symm
    have h9 := h9.symm
    subst h8
    subst h9
    refine lv_if_ne (tgt := 16) cx.x cx.b dX11_bake_10 (by decide) (fun hb10 => absurd ((isL hN9).mpr hv) hb10) (fun hb10 => ?_)
    refine lv_bipush (v := (-101)) cx.x cx.b dX11_bake_13 (by decide) ?_
    exact ret_i (σ, 0, fl, dv) cx hw (okM_0 (by unfold aBake; rw [if_neg hv])) dX11_bake_15 (Nat.le_of_ble_eq_true rfl) (Nat.le_of_ble_eq_true rfl)
set_option maxHeartbeats 4000000 in
set_option maxRecDepth 100000 in
theorem c_X11_worth (l : Launch) (D : va_G) (M : Nat → Nat) (Q : Nat → ClassId) (σ : St) (th fl dv : Int32) {b : Nat} (hI : Inv (b + 100) σ) (lo : Int32) : MI l yX11_worth cX11_worth 3 .int ({ frames := 3, cells := 0, slots := 0, locals := 64 }) D cls (tyl Q) [.ref (M 0), .int lo] (mw M Q) (mw M Q (σ, th, fl, dv)) (okM (aWorth σ lo)) 0 0 := by
  refine MI_of (by decide) (Nat.le_of_ble_eq_true rfl) ?_
  intro p e s m args below meth c A ls cx hw hl
  have hl : lv_has ls 3 [(0, .ref (M 0)), (1, .int lo)] := hl
  have hN9 := hI.n
  have hb9 : s_N σ + 100 < 2 ^ 30 := by have := hI.2.2.2.2.1; omega
  by_cases hv : okL σ lo
  · obtain ⟨i, hn, rfl⟩ := okL_i hN9 hv
    have hd := hI.k hn
    have hi : i < 20 := by omega
    by_cases g1 : fWorth (s_k σ i) i σ
    · refine lv_aload_n cx.x cx.b dX11_worth_0 rfl (lv_at hl 0 rfl) ?_
      refine lv_iconst (v := 0) cx.x cx.b dX11_worth_1 (by decide) ?_
      refine pt_f cx hw 0 (mw_h σ th fl dv) rfl inX11 tyX11 tyX11_ok nmX11 0 (by decide) tw_757 ⟨rfl, rfl, Or.inl rfl⟩ rfl rfl rfl rfl (Nat.le_of_ble_eq_true rfl) dX11_worth_2 (w1 := mw M Q (σ, 0, fl, dv)) mw_p0 (fun H locs hw => ?_)
      refine lv_aload_n cx.x cx.b dX11_worth_5 rfl (lv_at hl 0 rfl) ?_
      refine lv_iload_n cx.x cx.b dX11_worth_6 rfl (lv_at hl 1 rfl) ?_
      refine cgo_i cx hw (rV_i (q0 := 0) (n := 1) (As := [.int (nI i)]) (rest := []) cx hw (c_X11_isLoaf l D M Q σ 0 fl dv (nI i)) (gd_V tw_835 tw_837 ts_7 tw_4 tw_838) rfl ⟨by decide +kernel, rfl, hl.1, (Nat.le_of_ble_eq_true rfl), ⟨(Nat.le_of_ble_eq_true rfl), (Nat.le_of_ble_eq_true rfl)⟩, ⟨(Nat.le_of_ble_eq_true rfl), (Nat.le_of_ble_eq_true rfl)⟩, rfl, rfl⟩ rfl (mw_h σ 0 fl dv) rfl dX11_worth_7) (fun r u H locs hp hw => ?_)
      obtain ⟨h8, h9⟩ := hp
      have h8 := h8.symm
      have h9 := h9.symm
      subst h8
      subst h9
      refine lv_if_ne (tgt := 16) cx.x cx.b dX11_worth_10 (by decide) (fun hb10 => ?_) (fun hb10 => absurd hv ((isL hN9).mp hb10))
      refine lv_aload_n cx.x cx.b dX11_worth_16 rfl (lv_at hl 0 rfl) ?_
      refine lv_iload_n cx.x cx.b dX11_worth_17 rfl (lv_at hl 1 rfl) ?_
      refine cgo_i cx hw (rV_i (q0 := 0) (n := 1) (As := [.int (nI i)]) (rest := []) cx hw (c_X11_worthOf l D M Q σ 0 fl dv i hi (by show s_N σ + 3 < 2 ^ 30; omega) hd) (gd_V tw_899 tw_901 ts_19 tw_4 tw_902) rfl ⟨by decide +kernel, rfl, hl.1, (Nat.le_of_ble_eq_true rfl), ⟨(Nat.le_of_ble_eq_true rfl), (Nat.le_of_ble_eq_true rfl)⟩, ⟨(Nat.le_of_ble_eq_true rfl), (Nat.le_of_ble_eq_true rfl)⟩, rfl, rfl⟩ rfl (mw_h σ 0 fl dv) rfl dX11_worth_18) (fun r u H locs hp hw => ?_)
      obtain ⟨h8, h9⟩ := hp
      have h8 := h8.symm
      have h9 := h9.symm
      subst h8
      subst h9
      refine lv_istore_n (lv' := [(2, .int (vWorth (s_k σ i) i σ)), (0, .ref (M 0)), (1, .int (nI i))]) cx.x cx.b dX11_worth_21 rfl hl (by decide) rfl (fun ls hl => ?_)
      refine lv_aload_n cx.x cx.b dX11_worth_22 rfl (lv_at hl 1 rfl) ?_
      refine lv_aload_n cx.x cx.b dX11_worth_23 rfl (lv_at hl 1 rfl) ?_
      refine gt_f (v := .int (b01 (fWorth (s_k σ i) i σ))) cx hw 0 (mw_h (rWorth (s_k σ i) i σ) 0 fl (b01 (fWorth (s_k σ i) i σ))) rfl inX11 16 (by decide) tw_773 ⟨rfl, rfl, Or.inl rfl⟩ rfl dX11_worth_24 ?_
      refine lv_if_eq (tgt := 34) cx.x cx.b dX11_worth_27 (by decide) (fun hb27 => absurd g1 (b01_eq0.mp hb27)) (fun hb27 => ?_)
      refine lv_iconst (v := 1) cx.x cx.b dX11_worth_30 (by decide) ?_
      refine lv_goto (tgt := 35) cx.x cx.b dX11_worth_31 (by decide) ?_
      refine pt_f cx hw 0 (mw_h (rWorth (s_k σ i) i σ) 0 fl (b01 (fWorth (s_k σ i) i σ))) rfl inX11 tyX11 tyX11_ok nmX11 0 (by decide) tw_757 ⟨rfl, rfl, Or.inl rfl⟩ rfl rfl rfl rfl (Nat.le_of_ble_eq_true rfl) dX11_worth_35 (w1 := mw M Q (rWorth (s_k σ i) i σ, 1, fl, b01 (fWorth (s_k σ i) i σ))) mw_p0 (fun H locs hw => ?_)
      refine lv_iload_n cx.x cx.b dX11_worth_38 rfl (lv_at hl 0 rfl) ?_
      exact ret_i (rWorth (s_k σ i) i σ, 1, fl, b01 (fWorth (s_k σ i) i σ)) cx hw (okM_1 (by unfold aWorth; rw [if_pos hv, cl20 hN9 hn, if_pos g1]) (by decide) rfl) dX11_worth_39 (Nat.le_of_ble_eq_true rfl) (Nat.le_of_ble_eq_true rfl)
    · refine lv_aload_n cx.x cx.b dX11_worth_0 rfl (lv_at hl 0 rfl) ?_
      refine lv_iconst (v := 0) cx.x cx.b dX11_worth_1 (by decide) ?_
      refine pt_f cx hw 0 (mw_h σ th fl dv) rfl inX11 tyX11 tyX11_ok nmX11 0 (by decide) tw_757 ⟨rfl, rfl, Or.inl rfl⟩ rfl rfl rfl rfl (Nat.le_of_ble_eq_true rfl) dX11_worth_2 (w1 := mw M Q (σ, 0, fl, dv)) mw_p0 (fun H locs hw => ?_)
      refine lv_aload_n cx.x cx.b dX11_worth_5 rfl (lv_at hl 0 rfl) ?_
      refine lv_iload_n cx.x cx.b dX11_worth_6 rfl (lv_at hl 1 rfl) ?_
      refine cgo_i cx hw (rV_i (q0 := 0) (n := 1) (As := [.int (nI i)]) (rest := []) cx hw (c_X11_isLoaf l D M Q σ 0 fl dv (nI i)) (gd_V tw_835 tw_837 ts_7 tw_4 tw_838) rfl ⟨by decide +kernel, rfl, hl.1, (Nat.le_of_ble_eq_true rfl), ⟨(Nat.le_of_ble_eq_true rfl), (Nat.le_of_ble_eq_true rfl)⟩, ⟨(Nat.le_of_ble_eq_true rfl), (Nat.le_of_ble_eq_true rfl)⟩, rfl, rfl⟩ rfl (mw_h σ 0 fl dv) rfl dX11_worth_7) (fun r u H locs hp hw => ?_)
      obtain ⟨h8, h9⟩ := hp
      have h8 := h8.symm
      have h9 := h9.symm
      subst h8
      subst h9
      refine lv_if_ne (tgt := 16) cx.x cx.b dX11_worth_10 (by decide) (fun hb10 => ?_) (fun hb10 => absurd hv ((isL hN9).mp hb10))
      refine lv_aload_n cx.x cx.b dX11_worth_16 rfl (lv_at hl 0 rfl) ?_
      refine lv_iload_n cx.x cx.b dX11_worth_17 rfl (lv_at hl 1 rfl) ?_
      refine cgo_i cx hw (rV_i (q0 := 0) (n := 1) (As := [.int (nI i)]) (rest := []) cx hw (c_X11_worthOf l D M Q σ 0 fl dv i hi (by show s_N σ + 3 < 2 ^ 30; omega) hd) (gd_V tw_899 tw_901 ts_19 tw_4 tw_902) rfl ⟨by decide +kernel, rfl, hl.1, (Nat.le_of_ble_eq_true rfl), ⟨(Nat.le_of_ble_eq_true rfl), (Nat.le_of_ble_eq_true rfl)⟩, ⟨(Nat.le_of_ble_eq_true rfl), (Nat.le_of_ble_eq_true rfl)⟩, rfl, rfl⟩ rfl (mw_h σ 0 fl dv) rfl dX11_worth_18) (fun r u H locs hp hw => ?_)
      obtain ⟨h8, h9⟩ := hp
      have h8 := h8.symm
      have h9 := h9.symm
      subst h8
      subst h9
      refine lv_istore_n (lv' := [(2, .int (vWorth (s_k σ i) i σ)), (0, .ref (M 0)), (1, .int (nI i))]) cx.x cx.b dX11_worth_21 rfl hl (by decide) rfl (fun ls hl => ?_)
      refine lv_aload_n cx.x cx.b dX11_worth_22 rfl (lv_at hl 1 rfl) ?_
      refine lv_aload_n cx.x cx.b dX11_worth_23 rfl (lv_at hl 1 rfl) ?_
      refine gt_f (v := .int (b01 (fWorth (s_k σ i) i σ))) cx hw 0 (mw_h (rWorth (s_k σ i) i σ) 0 fl (b01 (fWorth (s_k σ i) i σ))) rfl inX11 16 (by decide) tw_773 ⟨rfl, rfl, Or.inl rfl⟩ rfl dX11_worth_24 ?_
      refine lv_if_eq (tgt := 34) cx.x cx.b dX11_worth_27 (by decide) (fun hb27 => ?_) (fun hb27 => absurd (b01_eq0.mpr g1) hb27)
      refine lv_iconst (v := 0) cx.x cx.b dX11_worth_34 (by decide) ?_
      refine pt_f cx hw 0 (mw_h (rWorth (s_k σ i) i σ) 0 fl (b01 (fWorth (s_k σ i) i σ))) rfl inX11 tyX11 tyX11_ok nmX11 0 (by decide) tw_757 ⟨rfl, rfl, Or.inl rfl⟩ rfl rfl rfl rfl (Nat.le_of_ble_eq_true rfl) dX11_worth_35 (w1 := mw M Q (rWorth (s_k σ i) i σ, 0, fl, b01 (fWorth (s_k σ i) i σ))) mw_p0 (fun H locs hw => ?_)
      refine lv_iload_n cx.x cx.b dX11_worth_38 rfl (lv_at hl 0 rfl) ?_
      exact ret_i (rWorth (s_k σ i) i σ, 0, fl, b01 (fWorth (s_k σ i) i σ)) cx hw (okM_0 (by unfold aWorth; rw [if_pos hv, cl20 hN9 hn, if_neg g1])) dX11_worth_39 (Nat.le_of_ble_eq_true rfl) (Nat.le_of_ble_eq_true rfl)
  · refine lv_aload_n cx.x cx.b dX11_worth_0 rfl (lv_at hl 0 rfl) ?_
    refine lv_iconst (v := 0) cx.x cx.b dX11_worth_1 (by decide) ?_
    refine pt_f cx hw 0 (mw_h σ th fl dv) rfl inX11 tyX11 tyX11_ok nmX11 0 (by decide) tw_757 ⟨rfl, rfl, Or.inl rfl⟩ rfl rfl rfl rfl (Nat.le_of_ble_eq_true rfl) dX11_worth_2 (w1 := mw M Q (σ, 0, fl, dv)) mw_p0 (fun H locs hw => ?_)
    refine lv_aload_n cx.x cx.b dX11_worth_5 rfl (lv_at hl 0 rfl) ?_
    refine lv_iload_n cx.x cx.b dX11_worth_6 rfl (lv_at hl 1 rfl) ?_
    refine cgo_i cx hw (rV_i (q0 := 0) (n := 1) (As := [.int lo]) (rest := []) cx hw (c_X11_isLoaf l D M Q σ 0 fl dv lo) (gd_V tw_835 tw_837 ts_7 tw_4 tw_838) rfl ⟨by decide +kernel, rfl, hl.1, (Nat.le_of_ble_eq_true rfl), ⟨(Nat.le_of_ble_eq_true rfl), (Nat.le_of_ble_eq_true rfl)⟩, ⟨(Nat.le_of_ble_eq_true rfl), (Nat.le_of_ble_eq_true rfl)⟩, rfl, rfl⟩ rfl (mw_h σ 0 fl dv) rfl dX11_worth_7) (fun r u H locs hp hw => ?_)
    obtain ⟨h8, h9⟩ := hp
    have h8 := h8.symm
    have h9 := h9.symm
    subst h8
    subst h9
    refine lv_if_ne (tgt := 16) cx.x cx.b dX11_worth_10 (by decide) (fun hb10 => absurd ((isL hN9).mpr hv) hb10) (fun hb10 => ?_)
    refine lv_bipush (v := (-101)) cx.x cx.b dX11_worth_13 (by decide) ?_
    exact ret_i (σ, 0, fl, dv) cx hw (okM_0 (by unfold aWorth; rw [if_neg hv])) dX11_worth_15 (Nat.le_of_ble_eq_true rfl) (Nat.le_of_ble_eq_true rfl)
set_option maxHeartbeats 4000000 in
set_option maxRecDepth 100000 in
theorem c_X11_cost (l : Launch) (D : va_G) (M : Nat → Nat) (Q : Nat → ClassId) (σ : St) (th fl dv : Int32) {b : Nat} (hI : Inv (b + 100) σ) (lo : Int32) : MI l yX11_cost cX11_cost 3 .int ({ frames := 4, cells := 0, slots := 0, locals := 86 }) D cls (tyl Q) [.ref (M 0), .int lo] (mw M Q) (mw M Q (σ, th, fl, dv)) (okM (aCost σ lo)) 0 0 := by
  refine MI_of (by decide) (Nat.le_of_ble_eq_true rfl) ?_
  intro p e s m args below meth c A ls cx hw hl
  have hl : lv_has ls 3 [(0, .ref (M 0)), (1, .int lo)] := hl
  have hN9 := hI.n
  have hb9 : s_N σ + 100 < 2 ^ 30 := by have := hI.2.2.2.2.1; omega
  by_cases hv : okL σ lo
  · obtain ⟨i, hn, rfl⟩ := okL_i hN9 hv
    have hd := hI.k hn
    have hi : i < 20 := by omega
    by_cases hm : sold (s_k σ i)
    · by_cases g1 : fWorth (s_k σ i) i σ
      · refine lv_aload_n cx.x cx.b dX11_cost_0 rfl (lv_at hl 0 rfl) ?_
        refine lv_iconst (v := 0) cx.x cx.b dX11_cost_1 (by decide) ?_
        refine pt_f cx hw 0 (mw_h σ th fl dv) rfl inX11 tyX11 tyX11_ok nmX11 0 (by decide) tw_757 ⟨rfl, rfl, Or.inl rfl⟩ rfl rfl rfl rfl (Nat.le_of_ble_eq_true rfl) dX11_cost_2 (w1 := mw M Q (σ, 0, fl, dv)) mw_p0 (fun H locs hw => ?_)
        refine lv_aload_n cx.x cx.b dX11_cost_5 rfl (lv_at hl 0 rfl) ?_
        refine lv_iload_n cx.x cx.b dX11_cost_6 rfl (lv_at hl 1 rfl) ?_
        refine cgo_i cx hw (rV_i (q0 := 0) (n := 1) (As := [.int (nI i)]) (rest := []) cx hw (c_X11_isLoaf l D M Q σ 0 fl dv (nI i)) (gd_V tw_835 tw_837 ts_7 tw_4 tw_838) rfl ⟨by decide +kernel, rfl, hl.1, (Nat.le_of_ble_eq_true rfl), ⟨(Nat.le_of_ble_eq_true rfl), (Nat.le_of_ble_eq_true rfl)⟩, ⟨(Nat.le_of_ble_eq_true rfl), (Nat.le_of_ble_eq_true rfl)⟩, rfl, rfl⟩ rfl (mw_h σ 0 fl dv) rfl dX11_cost_7) (fun r u H locs hp hw => ?_)
        obtain ⟨h8, h9⟩ := hp
        have h8 := h8.symm
        have h9 := h9.symm
        subst h8
        subst h9
        refine lv_if_ne (tgt := 16) cx.x cx.b dX11_cost_10 (by decide) (fun hb10 => ?_) (fun hb10 => absurd hv ((isL hN9).mp hb10))
        refine lv_aload_n cx.x cx.b dX11_cost_16 rfl (lv_at hl 0 rfl) ?_
        refine lv_iload_n cx.x cx.b dX11_cost_17 rfl (lv_at hl 1 rfl) ?_
        refine cgo_i cx hw (rV_i (q0 := 0) (n := 1) (As := [.int (nI i)]) (rest := []) cx hw (c_X11_isSold l D M Q σ 0 fl dv i hi) (gd_V tw_911 tw_913 ts_21 tw_4 tw_914) rfl ⟨by decide +kernel, rfl, hl.1, (Nat.le_of_ble_eq_true rfl), ⟨(Nat.le_of_ble_eq_true rfl), (Nat.le_of_ble_eq_true rfl)⟩, ⟨(Nat.le_of_ble_eq_true rfl), (Nat.le_of_ble_eq_true rfl)⟩, rfl, rfl⟩ rfl (mw_h σ 0 fl dv) rfl dX11_cost_18) (fun r u H locs hp hw => ?_)
        obtain ⟨h8, h9⟩ := hp
        have h8 := h8.symm
        have h9 := h9.symm
        subst h8
        subst h9
        refine lv_if_ne (tgt := 27) cx.x cx.b dX11_cost_21 (by decide) (fun hb21 => ?_) (fun hb21 => absurd hm ((sold_w hd).mp hb21))
        refine lv_aload_n cx.x cx.b dX11_cost_27 rfl (lv_at hl 0 rfl) ?_
        refine lv_iload_n cx.x cx.b dX11_cost_28 rfl (lv_at hl 1 rfl) ?_
        refine cgo_i cx hw (rV_i (q0 := 0) (n := 1) (As := [.int (nI i)]) (rest := []) cx hw (c_X11_costOf l D M Q σ 0 fl dv i hi (by show s_N σ + 3 < 2 ^ 30; omega) hd) (gd_V tw_915 tw_917 ts_22 tw_4 tw_918) rfl ⟨by decide +kernel, rfl, hl.1, (Nat.le_of_ble_eq_true rfl), ⟨(Nat.le_of_ble_eq_true rfl), (Nat.le_of_ble_eq_true rfl)⟩, ⟨(Nat.le_of_ble_eq_true rfl), (Nat.le_of_ble_eq_true rfl)⟩, rfl, rfl⟩ rfl (mw_h σ 0 fl dv) rfl dX11_cost_29) (fun r u H locs hp hw => ?_)
        obtain ⟨h8, h9⟩ := hp
        have h8 := h8.symm
        have h9 := h9.symm
        subst h8
        subst h9
        refine lv_istore_n (lv' := [(2, .int (vCost (s_k σ i) i σ)), (0, .ref (M 0)), (1, .int (nI i))]) cx.x cx.b dX11_cost_32 rfl hl (by decide) rfl (fun ls hl => ?_)
        refine lv_aload_n cx.x cx.b dX11_cost_33 rfl (lv_at hl 1 rfl) ?_
        refine lv_aload_n cx.x cx.b dX11_cost_34 rfl (lv_at hl 1 rfl) ?_
        refine gt_f (v := .int (b01 (fWorth (s_k σ i) i σ))) cx hw 0 (mw_h (rWorth (s_k σ i) i σ) 0 fl (b01 (fWorth (s_k σ i) i σ))) rfl inX11 16 (by decide) tw_773 ⟨rfl, rfl, Or.inl rfl⟩ rfl dX11_cost_35 ?_
        refine lv_if_eq (tgt := 45) cx.x cx.b dX11_cost_38 (by decide) (fun hb38 => absurd g1 (b01_eq0.mp hb38)) (fun hb38 => ?_)
        refine lv_iconst (v := 1) cx.x cx.b dX11_cost_41 (by decide) ?_
        refine lv_goto (tgt := 46) cx.x cx.b dX11_cost_42 (by decide) ?_
        refine pt_f cx hw 0 (mw_h (rWorth (s_k σ i) i σ) 0 fl (b01 (fWorth (s_k σ i) i σ))) rfl inX11 tyX11 tyX11_ok nmX11 0 (by decide) tw_757 ⟨rfl, rfl, Or.inl rfl⟩ rfl rfl rfl rfl (Nat.le_of_ble_eq_true rfl) dX11_cost_46 (w1 := mw M Q (rWorth (s_k σ i) i σ, 1, fl, b01 (fWorth (s_k σ i) i σ))) mw_p0 (fun H locs hw => ?_)
        refine lv_aload_n cx.x cx.b dX11_cost_49 rfl (lv_at hl 1 rfl) ?_
        refine gt_f (v := .int (b01 (fWorth (s_k σ i) i σ))) cx hw 0 (mw_h (rWorth (s_k σ i) i σ) 1 fl (b01 (fWorth (s_k σ i) i σ))) rfl inX11 16 (by decide) tw_773 ⟨rfl, rfl, Or.inl rfl⟩ rfl dX11_cost_50 ?_
        refine lv_if_eq (tgt := 60) cx.x cx.b dX11_cost_53 (by decide) (fun hb53 => absurd g1 (b01_eq0.mp hb53)) (fun hb53 => ?_)
        refine lv_iconst (v := 0) cx.x cx.b dX11_cost_56 (by decide) ?_
        refine lv_goto (tgt := 61) cx.x cx.b dX11_cost_57 (by decide) ?_
        exact ret_i (rWorth (s_k σ i) i σ, 1, fl, b01 (fWorth (s_k σ i) i σ)) cx hw (okM_1 (by unfold aCost; rw [if_pos hv, cl20 hN9 hn, if_pos hm, if_pos g1]) (by decide) rfl) dX11_cost_61 (Nat.le_of_ble_eq_true rfl) (Nat.le_of_ble_eq_true rfl)
      · refine lv_aload_n cx.x cx.b dX11_cost_0 rfl (lv_at hl 0 rfl) ?_
        refine lv_iconst (v := 0) cx.x cx.b dX11_cost_1 (by decide) ?_
        refine pt_f cx hw 0 (mw_h σ th fl dv) rfl inX11 tyX11 tyX11_ok nmX11 0 (by decide) tw_757 ⟨rfl, rfl, Or.inl rfl⟩ rfl rfl rfl rfl (Nat.le_of_ble_eq_true rfl) dX11_cost_2 (w1 := mw M Q (σ, 0, fl, dv)) mw_p0 (fun H locs hw => ?_)
        refine lv_aload_n cx.x cx.b dX11_cost_5 rfl (lv_at hl 0 rfl) ?_
        refine lv_iload_n cx.x cx.b dX11_cost_6 rfl (lv_at hl 1 rfl) ?_
        refine cgo_i cx hw (rV_i (q0 := 0) (n := 1) (As := [.int (nI i)]) (rest := []) cx hw (c_X11_isLoaf l D M Q σ 0 fl dv (nI i)) (gd_V tw_835 tw_837 ts_7 tw_4 tw_838) rfl ⟨by decide +kernel, rfl, hl.1, (Nat.le_of_ble_eq_true rfl), ⟨(Nat.le_of_ble_eq_true rfl), (Nat.le_of_ble_eq_true rfl)⟩, ⟨(Nat.le_of_ble_eq_true rfl), (Nat.le_of_ble_eq_true rfl)⟩, rfl, rfl⟩ rfl (mw_h σ 0 fl dv) rfl dX11_cost_7) (fun r u H locs hp hw => ?_)
        obtain ⟨h8, h9⟩ := hp
        have h8 := h8.symm
        have h9 := h9.symm
        subst h8
        subst h9
        refine lv_if_ne (tgt := 16) cx.x cx.b dX11_cost_10 (by decide) (fun hb10 => ?_) (fun hb10 => absurd hv ((isL hN9).mp hb10))
        refine lv_aload_n cx.x cx.b dX11_cost_16 rfl (lv_at hl 0 rfl) ?_
        refine lv_iload_n cx.x cx.b dX11_cost_17 rfl (lv_at hl 1 rfl) ?_
        refine cgo_i cx hw (rV_i (q0 := 0) (n := 1) (As := [.int (nI i)]) (rest := []) cx hw (c_X11_isSold l D M Q σ 0 fl dv i hi) (gd_V tw_911 tw_913 ts_21 tw_4 tw_914) rfl ⟨by decide +kernel, rfl, hl.1, (Nat.le_of_ble_eq_true rfl), ⟨(Nat.le_of_ble_eq_true rfl), (Nat.le_of_ble_eq_true rfl)⟩, ⟨(Nat.le_of_ble_eq_true rfl), (Nat.le_of_ble_eq_true rfl)⟩, rfl, rfl⟩ rfl (mw_h σ 0 fl dv) rfl dX11_cost_18) (fun r u H locs hp hw => ?_)
        obtain ⟨h8, h9⟩ := hp
        have h8 := h8.symm
        have h9 := h9.symm
        subst h8
        subst h9
        refine lv_if_ne (tgt := 27) cx.x cx.b dX11_cost_21 (by decide) (fun hb21 => ?_) (fun hb21 => absurd hm ((sold_w hd).mp hb21))
        refine lv_aload_n cx.x cx.b dX11_cost_27 rfl (lv_at hl 0 rfl) ?_
        refine lv_iload_n cx.x cx.b dX11_cost_28 rfl (lv_at hl 1 rfl) ?_
        refine cgo_i cx hw (rV_i (q0 := 0) (n := 1) (As := [.int (nI i)]) (rest := []) cx hw (c_X11_costOf l D M Q σ 0 fl dv i hi (by show s_N σ + 3 < 2 ^ 30; omega) hd) (gd_V tw_915 tw_917 ts_22 tw_4 tw_918) rfl ⟨by decide +kernel, rfl, hl.1, (Nat.le_of_ble_eq_true rfl), ⟨(Nat.le_of_ble_eq_true rfl), (Nat.le_of_ble_eq_true rfl)⟩, ⟨(Nat.le_of_ble_eq_true rfl), (Nat.le_of_ble_eq_true rfl)⟩, rfl, rfl⟩ rfl (mw_h σ 0 fl dv) rfl dX11_cost_29) (fun r u H locs hp hw => ?_)
        obtain ⟨h8, h9⟩ := hp
        have h8 := h8.symm
        have h9 := h9.symm
        subst h8
        subst h9
        refine lv_istore_n (lv' := [(2, .int (vCost (s_k σ i) i σ)), (0, .ref (M 0)), (1, .int (nI i))]) cx.x cx.b dX11_cost_32 rfl hl (by decide) rfl (fun ls hl => ?_)
        refine lv_aload_n cx.x cx.b dX11_cost_33 rfl (lv_at hl 1 rfl) ?_
        refine lv_aload_n cx.x cx.b dX11_cost_34 rfl (lv_at hl 1 rfl) ?_
        refine gt_f (v := .int (b01 (fWorth (s_k σ i) i σ))) cx hw 0 (mw_h (rWorth (s_k σ i) i σ) 0 fl (b01 (fWorth (s_k σ i) i σ))) rfl inX11 16 (by decide) tw_773 ⟨rfl, rfl, Or.inl rfl⟩ rfl dX11_cost_35 ?_
        refine lv_if_eq (tgt := 45) cx.x cx.b dX11_cost_38 (by decide) (fun hb38 => ?_) (fun hb38 => absurd (b01_eq0.mpr g1) hb38)
        refine lv_iconst (v := 0) cx.x cx.b dX11_cost_45 (by decide) ?_
        refine pt_f cx hw 0 (mw_h (rWorth (s_k σ i) i σ) 0 fl (b01 (fWorth (s_k σ i) i σ))) rfl inX11 tyX11 tyX11_ok nmX11 0 (by decide) tw_757 ⟨rfl, rfl, Or.inl rfl⟩ rfl rfl rfl rfl (Nat.le_of_ble_eq_true rfl) dX11_cost_46 (w1 := mw M Q (rWorth (s_k σ i) i σ, 0, fl, b01 (fWorth (s_k σ i) i σ))) mw_p0 (fun H locs hw => ?_)
        refine lv_aload_n cx.x cx.b dX11_cost_49 rfl (lv_at hl 1 rfl) ?_
        refine gt_f (v := .int (b01 (fWorth (s_k σ i) i σ))) cx hw 0 (mw_h (rWorth (s_k σ i) i σ) 0 fl (b01 (fWorth (s_k σ i) i σ))) rfl inX11 16 (by decide) tw_773 ⟨rfl, rfl, Or.inl rfl⟩ rfl dX11_cost_50 ?_
        refine lv_if_eq (tgt := 60) cx.x cx.b dX11_cost_53 (by decide) (fun hb53 => ?_) (fun hb53 => absurd (b01_eq0.mpr g1) hb53)
        refine lv_iload_n cx.x cx.b dX11_cost_60 rfl (lv_at hl 0 rfl) ?_
        exact ret_i (rWorth (s_k σ i) i σ, 0, fl, b01 (fWorth (s_k σ i) i σ)) cx hw (okM_0 (by unfold aCost; rw [if_pos hv, cl20 hN9 hn, if_pos hm, if_neg g1])) dX11_cost_61 (Nat.le_of_ble_eq_true rfl) (Nat.le_of_ble_eq_true rfl)
    · refine lv_aload_n cx.x cx.b dX11_cost_0 rfl (lv_at hl 0 rfl) ?_
      refine lv_iconst (v := 0) cx.x cx.b dX11_cost_1 (by decide) ?_
      refine pt_f cx hw 0 (mw_h σ th fl dv) rfl inX11 tyX11 tyX11_ok nmX11 0 (by decide) tw_757 ⟨rfl, rfl, Or.inl rfl⟩ rfl rfl rfl rfl (Nat.le_of_ble_eq_true rfl) dX11_cost_2 (w1 := mw M Q (σ, 0, fl, dv)) mw_p0 (fun H locs hw => ?_)
      refine lv_aload_n cx.x cx.b dX11_cost_5 rfl (lv_at hl 0 rfl) ?_
      refine lv_iload_n cx.x cx.b dX11_cost_6 rfl (lv_at hl 1 rfl) ?_
      refine cgo_i cx hw (rV_i (q0 := 0) (n := 1) (As := [.int (nI i)]) (rest := []) cx hw (c_X11_isLoaf l D M Q σ 0 fl dv (nI i)) (gd_V tw_835 tw_837 ts_7 tw_4 tw_838) rfl ⟨by decide +kernel, rfl, hl.1, (Nat.le_of_ble_eq_true rfl), ⟨(Nat.le_of_ble_eq_true rfl), (Nat.le_of_ble_eq_true rfl)⟩, ⟨(Nat.le_of_ble_eq_true rfl), (Nat.le_of_ble_eq_true rfl)⟩, rfl, rfl⟩ rfl (mw_h σ 0 fl dv) rfl dX11_cost_7) (fun r u H locs hp hw => ?_)
      obtain ⟨h8, h9⟩ := hp
      have h8 := h8.symm
      have h9 := h9.symm
      subst h8
      subst h9
      refine lv_if_ne (tgt := 16) cx.x cx.b dX11_cost_10 (by decide) (fun hb10 => ?_) (fun hb10 => absurd hv ((isL hN9).mp hb10))
      refine lv_aload_n cx.x cx.b dX11_cost_16 rfl (lv_at hl 0 rfl) ?_
      refine lv_iload_n cx.x cx.b dX11_cost_17 rfl (lv_at hl 1 rfl) ?_
      refine cgo_i cx hw (rV_i (q0 := 0) (n := 1) (As := [.int (nI i)]) (rest := []) cx hw (c_X11_isSold l D M Q σ 0 fl dv i hi) (gd_V tw_911 tw_913 ts_21 tw_4 tw_914) rfl ⟨by decide +kernel, rfl, hl.1, (Nat.le_of_ble_eq_true rfl), ⟨(Nat.le_of_ble_eq_true rfl), (Nat.le_of_ble_eq_true rfl)⟩, ⟨(Nat.le_of_ble_eq_true rfl), (Nat.le_of_ble_eq_true rfl)⟩, rfl, rfl⟩ rfl (mw_h σ 0 fl dv) rfl dX11_cost_18) (fun r u H locs hp hw => ?_)
      obtain ⟨h8, h9⟩ := hp
      have h8 := h8.symm
      have h9 := h9.symm
      subst h8
      subst h9
      refine lv_if_ne (tgt := 27) cx.x cx.b dX11_cost_21 (by decide) (fun hb21 => absurd ((sold_w hd).mpr hm) hb21) (fun hb21 => ?_)
      refine lv_bipush (v := (-103)) cx.x cx.b dX11_cost_24 (by decide) ?_
      exact ret_i (σ, 0, fl, dv) cx hw (okM_0 (by unfold aCost; rw [if_pos hv, cl20 hN9 hn, if_neg hm])) dX11_cost_26 (Nat.le_of_ble_eq_true rfl) (Nat.le_of_ble_eq_true rfl)
  · refine lv_aload_n cx.x cx.b dX11_cost_0 rfl (lv_at hl 0 rfl) ?_
    refine lv_iconst (v := 0) cx.x cx.b dX11_cost_1 (by decide) ?_
    refine pt_f cx hw 0 (mw_h σ th fl dv) rfl inX11 tyX11 tyX11_ok nmX11 0 (by decide) tw_757 ⟨rfl, rfl, Or.inl rfl⟩ rfl rfl rfl rfl (Nat.le_of_ble_eq_true rfl) dX11_cost_2 (w1 := mw M Q (σ, 0, fl, dv)) mw_p0 (fun H locs hw => ?_)
    refine lv_aload_n cx.x cx.b dX11_cost_5 rfl (lv_at hl 0 rfl) ?_
    refine lv_iload_n cx.x cx.b dX11_cost_6 rfl (lv_at hl 1 rfl) ?_
    refine cgo_i cx hw (rV_i (q0 := 0) (n := 1) (As := [.int lo]) (rest := []) cx hw (c_X11_isLoaf l D M Q σ 0 fl dv lo) (gd_V tw_835 tw_837 ts_7 tw_4 tw_838) rfl ⟨by decide +kernel, rfl, hl.1, (Nat.le_of_ble_eq_true rfl), ⟨(Nat.le_of_ble_eq_true rfl), (Nat.le_of_ble_eq_true rfl)⟩, ⟨(Nat.le_of_ble_eq_true rfl), (Nat.le_of_ble_eq_true rfl)⟩, rfl, rfl⟩ rfl (mw_h σ 0 fl dv) rfl dX11_cost_7) (fun r u H locs hp hw => ?_)
    obtain ⟨h8, h9⟩ := hp
    have h8 := h8.symm
    have h9 := h9.symm
    subst h8
    subst h9
    refine lv_if_ne (tgt := 16) cx.x cx.b dX11_cost_10 (by decide) (fun hb10 => absurd ((isL hN9).mpr hv) hb10) (fun hb10 => ?_)
    refine lv_bipush (v := (-101)) cx.x cx.b dX11_cost_13 (by decide) ?_
    exact ret_i (σ, 0, fl, dv) cx hw (okM_0 (by unfold aCost; rw [if_neg hv])) dX11_cost_15 (Nat.le_of_ble_eq_true rfl) (Nat.le_of_ble_eq_true rfl)
set_option maxHeartbeats 4000000 in
set_option maxRecDepth 100000 in
theorem c_X11_places (l : Launch) (D : va_G) (M : Nat → Nat) (Q : Nat → ClassId) (σ : St) (th fl dv : Int32) (ks : Int32) : MI l yX11_places cX11_places 2 .int ({ frames := 2, cells := 0, slots := 0, locals := 42 }) D cls (tyl Q) [.ref (M 0), .int ks] (mw M Q) (mw M Q (σ, th, fl, dv)) (okM (aPlaces σ ks)) 0 0 := by
  refine MI_of (by decide) (Nat.le_of_ble_eq_true rfl) ?_
  intro p e s m args below meth c A ls cx hw hl
  have hl : lv_has ls 2 [(0, .ref (M 0)), (1, .int ks)] := hl
  by_cases hv : okS ks
  · obtain ⟨k, hk, rfl⟩ := okS_k hv
    refine lv_aload_n cx.x cx.b dX11_places_0 rfl (lv_at hl 0 rfl) ?_
    refine lv_iconst (v := 0) cx.x cx.b dX11_places_1 (by decide) ?_
    refine pt_f cx hw 0 (mw_h σ th fl dv) rfl inX11 tyX11 tyX11_ok nmX11 0 (by decide) tw_757 ⟨rfl, rfl, Or.inl rfl⟩ rfl rfl rfl rfl (Nat.le_of_ble_eq_true rfl) dX11_places_2 (w1 := mw M Q (σ, 0, fl, dv)) mw_p0 (fun H locs hw => ?_)
    refine lv_iload_n cx.x cx.b dX11_places_5 rfl (lv_at hl 1 rfl) ?_
    refine cgo_i cx hw (rS_i (n := 1) (As := [.int (nI k)]) (rest := []) cx hw (c_X11_isShelf l D M Q σ 0 fl dv (nI k)) (gd_S tw_824 tw_825 tw_4 tw_826) ⟨by decide +kernel, rfl, hl.1, (Nat.le_of_ble_eq_true rfl), ⟨(Nat.le_of_ble_eq_true rfl), (Nat.le_of_ble_eq_true rfl)⟩, ⟨(Nat.le_of_ble_eq_true rfl), (Nat.le_of_ble_eq_true rfl)⟩, rfl, rfl⟩ rfl dX11_places_6) (fun r u H locs hp hw => ?_)
    obtain ⟨h8, h9⟩ := hp
    have h8 := h8.symm
    have h9 := h9.symm
    subst h8
    subst h9
    refine lv_if_eq (tgt := 21) cx.x cx.b dX11_places_9 (by decide) (fun hb9 => absurd hv (isS.mp hb9)) (fun hb9 => ?_)
    refine lv_aload_n cx.x cx.b dX11_places_12 rfl (lv_at hl 0 rfl) ?_
    refine gt_f (v := .ref (M 7)) cx hw 0 (mw_h σ 0 fl dv) rfl inX11 8 (by decide) tw_765 ⟨rfl, rfl, Or.inl rfl⟩ rfl dX11_places_13 ?_
    refine lv_iload_n cx.x cx.b dX11_places_16 rfl (lv_at hl 1 rfl) ?_
    refine ald_i (f := (s_z σ)) cx hw 7 0 rfl rfl k rfl hk (by decide) dX11_places_17 ?_
    refine lv_goto (tgt := 23) cx.x cx.b dX11_places_18 (by decide) ?_
    exact ret_i (σ, 0, fl, dv) cx hw (okM_0 (by unfold aPlaces; rw [if_pos hv, cl4 hk])) dX11_places_23 (Nat.le_of_ble_eq_true rfl) (Nat.le_of_ble_eq_true rfl)
  · refine lv_aload_n cx.x cx.b dX11_places_0 rfl (lv_at hl 0 rfl) ?_
    refine lv_iconst (v := 0) cx.x cx.b dX11_places_1 (by decide) ?_
    refine pt_f cx hw 0 (mw_h σ th fl dv) rfl inX11 tyX11 tyX11_ok nmX11 0 (by decide) tw_757 ⟨rfl, rfl, Or.inl rfl⟩ rfl rfl rfl rfl (Nat.le_of_ble_eq_true rfl) dX11_places_2 (w1 := mw M Q (σ, 0, fl, dv)) mw_p0 (fun H locs hw => ?_)
    refine lv_iload_n cx.x cx.b dX11_places_5 rfl (lv_at hl 1 rfl) ?_
    refine cgo_i cx hw (rS_i (n := 1) (As := [.int ks]) (rest := []) cx hw (c_X11_isShelf l D M Q σ 0 fl dv ks) (gd_S tw_824 tw_825 tw_4 tw_826) ⟨by decide +kernel, rfl, hl.1, (Nat.le_of_ble_eq_true rfl), ⟨(Nat.le_of_ble_eq_true rfl), (Nat.le_of_ble_eq_true rfl)⟩, ⟨(Nat.le_of_ble_eq_true rfl), (Nat.le_of_ble_eq_true rfl)⟩, rfl, rfl⟩ rfl dX11_places_6) (fun r u H locs hp hw => ?_)
    obtain ⟨h8, h9⟩ := hp
    have h8 := h8.symm
    have h9 := h9.symm
    subst h8
    subst h9
    refine lv_if_eq (tgt := 21) cx.x cx.b dX11_places_9 (by decide) (fun hb9 => ?_) (fun hb9 => absurd (isS.mpr hv) hb9)
    refine lv_bipush (v := (-102)) cx.x cx.b dX11_places_21 (by decide) ?_
    exact ret_i (σ, 0, fl, dv) cx hw (okM_0 (by unfold aPlaces; rw [if_neg hv])) dX11_places_23 (Nat.le_of_ble_eq_true rfl) (Nat.le_of_ble_eq_true rfl)
set_option maxHeartbeats 4000000 in
set_option maxRecDepth 100000 in
theorem c_X11_out (l : Launch) (D : va_G) (M : Nat → Nat) (Q : Nat → ClassId) (σ : St) (th fl dv : Int32) (ks : Int32) : MI l yX11_out cX11_out 3 .int ({ frames := 2, cells := 0, slots := 0, locals := 42 }) D cls (tyl Q) [.ref (M 0), .int ks] (mw M Q) (mw M Q (σ, th, fl, dv)) (okM (aOut σ ks)) 0 0 := by
  refine MI_of (by decide) (Nat.le_of_ble_eq_true rfl) ?_
  intro p e s m args below meth c A ls cx hw hl
  have hl : lv_has ls 3 [(0, .ref (M 0)), (1, .int ks)] := hl
  by_cases hv : okS ks
  · obtain ⟨k, hk, rfl⟩ := okS_k hv
    by_cases hz0 : s_z σ k = -1
    · refine lv_aload_n cx.x cx.b dX11_out_0 rfl (lv_at hl 0 rfl) ?_
      refine lv_iconst (v := 0) cx.x cx.b dX11_out_1 (by decide) ?_
      refine pt_f cx hw 0 (mw_h σ th fl dv) rfl inX11 tyX11 tyX11_ok nmX11 0 (by decide) tw_757 ⟨rfl, rfl, Or.inl rfl⟩ rfl rfl rfl rfl (Nat.le_of_ble_eq_true rfl) dX11_out_2 (w1 := mw M Q (σ, 0, fl, dv)) mw_p0 (fun H locs hw => ?_)
      refine lv_iload_n cx.x cx.b dX11_out_5 rfl (lv_at hl 1 rfl) ?_
      refine cgo_i cx hw (rS_i (n := 1) (As := [.int (nI k)]) (rest := []) cx hw (c_X11_isShelf l D M Q σ 0 fl dv (nI k)) (gd_S tw_824 tw_825 tw_4 tw_826) ⟨by decide +kernel, rfl, hl.1, (Nat.le_of_ble_eq_true rfl), ⟨(Nat.le_of_ble_eq_true rfl), (Nat.le_of_ble_eq_true rfl)⟩, ⟨(Nat.le_of_ble_eq_true rfl), (Nat.le_of_ble_eq_true rfl)⟩, rfl, rfl⟩ rfl dX11_out_6) (fun r u H locs hp hw => ?_)
      obtain ⟨h8, h9⟩ := hp
      have h8 := h8.symm
      have h9 := h9.symm
      subst h8
      subst h9
      refine lv_if_ne (tgt := 15) cx.x cx.b dX11_out_9 (by decide) (fun hb9 => ?_) (fun hb9 => absurd hv (isS.mp hb9))
      refine lv_aload_n cx.x cx.b dX11_out_15 rfl (lv_at hl 0 rfl) ?_
      refine gt_f (v := .ref (M 7)) cx hw 0 (mw_h σ 0 fl dv) rfl inX11 8 (by decide) tw_765 ⟨rfl, rfl, Or.inl rfl⟩ rfl dX11_out_16 ?_
      refine lv_iload_n cx.x cx.b dX11_out_19 rfl (lv_at hl 1 rfl) ?_
      refine ald_i (f := (s_z σ)) cx hw 7 0 rfl rfl k rfl hk (by decide) dX11_out_20 ?_
      refine lv_iconst (v := (-1)) cx.x cx.b dX11_out_21 (by decide) ?_
      refine lv_icmp_ne (tgt := 29) cx.x cx.b dX11_out_22 (by decide) (fun hb22 => absurd hz0 hb22) (fun hb22 => ?_)
      refine lv_iconst (v := 1) cx.x cx.b dX11_out_25 (by decide) ?_
      refine lv_goto (tgt := 30) cx.x cx.b dX11_out_26 (by decide) ?_
      refine lv_istore_n (lv' := [(2, .int 1), (0, .ref (M 0)), (1, .int (nI k))]) cx.x cx.b dX11_out_30 rfl hl (by decide) rfl (fun ls hl => ?_)
      refine lv_aload_n cx.x cx.b dX11_out_31 rfl (lv_at hl 1 rfl) ?_
      refine gt_f (v := .ref (M 7)) cx hw 0 (mw_h σ 0 fl dv) rfl inX11 8 (by decide) tw_765 ⟨rfl, rfl, Or.inl rfl⟩ rfl dX11_out_32 ?_
      refine lv_iload_n cx.x cx.b dX11_out_35 rfl (lv_at hl 2 rfl) ?_
      refine lv_iconst (v := (-1)) cx.x cx.b dX11_out_36 (by decide) ?_
      refine ast_i (f := (s_z σ)) cx hw 7 0 rfl rfl k rfl hk (by decide) dX11_out_37 (w1 := mw M Q (sZ k (-1) σ, 0, fl, dv)) mw_a7 (fun H locs hw => ?_)
      refine lv_iload_n cx.x cx.b dX11_out_38 rfl (lv_at hl 0 rfl) ?_
      refine lv_if_eq (tgt := 46) cx.x cx.b dX11_out_39 (by decide) (fun hb39 => absurd hb39 (by decide)) (fun hb39 => ?_)
      refine lv_iconst (v := 0) cx.x cx.b dX11_out_42 (by decide) ?_
      refine lv_goto (tgt := 47) cx.x cx.b dX11_out_43 (by decide) ?_
      exact ret_i (sZ k (-1) σ, 0, fl, dv) cx hw (okM_0 (by unfold aOut; rw [if_pos hv, cl4 hk, if_pos hz0, sZ_self hz0])) dX11_out_47 (Nat.le_of_ble_eq_true rfl) (Nat.le_of_ble_eq_true rfl)
    · refine lv_aload_n cx.x cx.b dX11_out_0 rfl (lv_at hl 0 rfl) ?_
      refine lv_iconst (v := 0) cx.x cx.b dX11_out_1 (by decide) ?_
      refine pt_f cx hw 0 (mw_h σ th fl dv) rfl inX11 tyX11 tyX11_ok nmX11 0 (by decide) tw_757 ⟨rfl, rfl, Or.inl rfl⟩ rfl rfl rfl rfl (Nat.le_of_ble_eq_true rfl) dX11_out_2 (w1 := mw M Q (σ, 0, fl, dv)) mw_p0 (fun H locs hw => ?_)
      refine lv_iload_n cx.x cx.b dX11_out_5 rfl (lv_at hl 1 rfl) ?_
      refine cgo_i cx hw (rS_i (n := 1) (As := [.int (nI k)]) (rest := []) cx hw (c_X11_isShelf l D M Q σ 0 fl dv (nI k)) (gd_S tw_824 tw_825 tw_4 tw_826) ⟨by decide +kernel, rfl, hl.1, (Nat.le_of_ble_eq_true rfl), ⟨(Nat.le_of_ble_eq_true rfl), (Nat.le_of_ble_eq_true rfl)⟩, ⟨(Nat.le_of_ble_eq_true rfl), (Nat.le_of_ble_eq_true rfl)⟩, rfl, rfl⟩ rfl dX11_out_6) (fun r u H locs hp hw => ?_)
      obtain ⟨h8, h9⟩ := hp
      have h8 := h8.symm
      have h9 := h9.symm
      subst h8
      subst h9
      refine lv_if_ne (tgt := 15) cx.x cx.b dX11_out_9 (by decide) (fun hb9 => ?_) (fun hb9 => absurd hv (isS.mp hb9))
      refine lv_aload_n cx.x cx.b dX11_out_15 rfl (lv_at hl 0 rfl) ?_
      refine gt_f (v := .ref (M 7)) cx hw 0 (mw_h σ 0 fl dv) rfl inX11 8 (by decide) tw_765 ⟨rfl, rfl, Or.inl rfl⟩ rfl dX11_out_16 ?_
      refine lv_iload_n cx.x cx.b dX11_out_19 rfl (lv_at hl 1 rfl) ?_
      refine ald_i (f := (s_z σ)) cx hw 7 0 rfl rfl k rfl hk (by decide) dX11_out_20 ?_
      refine lv_iconst (v := (-1)) cx.x cx.b dX11_out_21 (by decide) ?_
      refine lv_icmp_ne (tgt := 29) cx.x cx.b dX11_out_22 (by decide) (fun hb22 => ?_) (fun hb22 => absurd hb22 hz0)
      refine lv_iconst (v := 0) cx.x cx.b dX11_out_29 (by decide) ?_
      refine lv_istore_n (lv' := [(2, .int 0), (0, .ref (M 0)), (1, .int (nI k))]) cx.x cx.b dX11_out_30 rfl hl (by decide) rfl (fun ls hl => ?_)
      refine lv_aload_n cx.x cx.b dX11_out_31 rfl (lv_at hl 1 rfl) ?_
      refine gt_f (v := .ref (M 7)) cx hw 0 (mw_h σ 0 fl dv) rfl inX11 8 (by decide) tw_765 ⟨rfl, rfl, Or.inl rfl⟩ rfl dX11_out_32 ?_
      refine lv_iload_n cx.x cx.b dX11_out_35 rfl (lv_at hl 2 rfl) ?_
      refine lv_iconst (v := (-1)) cx.x cx.b dX11_out_36 (by decide) ?_
      refine ast_i (f := (s_z σ)) cx hw 7 0 rfl rfl k rfl hk (by decide) dX11_out_37 (w1 := mw M Q (sZ k (-1) σ, 0, fl, dv)) mw_a7 (fun H locs hw => ?_)
      refine lv_iload_n cx.x cx.b dX11_out_38 rfl (lv_at hl 0 rfl) ?_
      refine lv_if_eq (tgt := 46) cx.x cx.b dX11_out_39 (by decide) (fun hb39 => ?_) (fun hb39 => absurd rfl hb39)
      refine lv_iconst (v := 1) cx.x cx.b dX11_out_46 (by decide) ?_
      exact ret_i (sZ k (-1) σ, 0, fl, dv) cx hw (okM_0 (by unfold aOut; rw [if_pos hv, cl4 hk, if_neg hz0])) dX11_out_47 (Nat.le_of_ble_eq_true rfl) (Nat.le_of_ble_eq_true rfl)
  · refine lv_aload_n cx.x cx.b dX11_out_0 rfl (lv_at hl 0 rfl) ?_
    refine lv_iconst (v := 0) cx.x cx.b dX11_out_1 (by decide) ?_
    refine pt_f cx hw 0 (mw_h σ th fl dv) rfl inX11 tyX11 tyX11_ok nmX11 0 (by decide) tw_757 ⟨rfl, rfl, Or.inl rfl⟩ rfl rfl rfl rfl (Nat.le_of_ble_eq_true rfl) dX11_out_2 (w1 := mw M Q (σ, 0, fl, dv)) mw_p0 (fun H locs hw => ?_)
    refine lv_iload_n cx.x cx.b dX11_out_5 rfl (lv_at hl 1 rfl) ?_
    refine cgo_i cx hw (rS_i (n := 1) (As := [.int ks]) (rest := []) cx hw (c_X11_isShelf l D M Q σ 0 fl dv ks) (gd_S tw_824 tw_825 tw_4 tw_826) ⟨by decide +kernel, rfl, hl.1, (Nat.le_of_ble_eq_true rfl), ⟨(Nat.le_of_ble_eq_true rfl), (Nat.le_of_ble_eq_true rfl)⟩, ⟨(Nat.le_of_ble_eq_true rfl), (Nat.le_of_ble_eq_true rfl)⟩, rfl, rfl⟩ rfl dX11_out_6) (fun r u H locs hp hw => ?_)
    obtain ⟨h8, h9⟩ := hp
    have h8 := h8.symm
    have h9 := h9.symm
    subst h8
    subst h9
    refine lv_if_ne (tgt := 15) cx.x cx.b dX11_out_9 (by decide) (fun hb9 => absurd (isS.mpr hv) hb9) (fun hb9 => ?_)
    refine lv_bipush (v := (-102)) cx.x cx.b dX11_out_12 (by decide) ?_
    exact ret_i (σ, 0, fl, dv) cx hw (okM_0 (by unfold aOut; rw [if_neg hv])) dX11_out_14 (Nat.le_of_ble_eq_true rfl) (Nat.le_of_ble_eq_true rfl)
set_option maxHeartbeats 4000000 in
set_option maxRecDepth 100000 in
theorem c_X11_at (l : Launch) (D : va_G) (M : Nat → Nat) (Q : Nat → ClassId) (σ : St) (th fl dv : Int32) (hz : ∀ k, k < 4 → s_z σ k = -1 ∨ ∃ j, j ≤ 8 ∧ s_z σ k = nI j) (ks pl : Int32) : MI l yX11_at cX11_at 3 .int ({ frames := 2, cells := 0, slots := 0, locals := 42 }) D cls (tyl Q) [.ref (M 0), .int ks, .int pl] (mw M Q) (mw M Q (σ, th, fl, dv)) (okM (aAt σ ks pl)) 0 0 := by
  refine MI_of (by decide) (Nat.le_of_ble_eq_true rfl) ?_
  intro p e s m args below meth c A ls cx hw hl
  have hl : lv_has ls 3 [(0, .ref (M 0)), (1, .int ks), (2, .int pl)] := hl
  by_cases hv : okS ks
  · obtain ⟨k, hk, rfl⟩ := okS_k hv
    by_cases hpp : hasP (s_z σ k) pl
    · have hzj := (hz k hk).resolve_left (fun e => by rw [e] at hpp; exact absurd hpp.2.1 (Int32.not_lt.mpr (Int32.le_trans (by decide) hpp.1)))
      obtain ⟨j, hj, rfl, hjz⟩ := hasP_nI hpp
      refine lv_aload_n cx.x cx.b dX11_at_0 rfl (lv_at hl 0 rfl) ?_
      refine lv_iconst (v := 0) cx.x cx.b dX11_at_1 (by decide) ?_
      refine pt_f cx hw 0 (mw_h σ th fl dv) rfl inX11 tyX11 tyX11_ok nmX11 0 (by decide) tw_757 ⟨rfl, rfl, Or.inl rfl⟩ rfl rfl rfl rfl (Nat.le_of_ble_eq_true rfl) dX11_at_2 (w1 := mw M Q (σ, 0, fl, dv)) mw_p0 (fun H locs hw => ?_)
      refine lv_iload_n cx.x cx.b dX11_at_5 rfl (lv_at hl 1 rfl) ?_
      refine cgo_i cx hw (rS_i (n := 1) (As := [.int (nI k)]) (rest := []) cx hw (c_X11_isShelf l D M Q σ 0 fl dv (nI k)) (gd_S tw_824 tw_825 tw_4 tw_826) ⟨by decide +kernel, rfl, hl.1, (Nat.le_of_ble_eq_true rfl), ⟨(Nat.le_of_ble_eq_true rfl), (Nat.le_of_ble_eq_true rfl)⟩, ⟨(Nat.le_of_ble_eq_true rfl), (Nat.le_of_ble_eq_true rfl)⟩, rfl, rfl⟩ rfl dX11_at_6) (fun r u H locs hp hw => ?_)
      obtain ⟨h8, h9⟩ := hp
      have h8 := h8.symm
      have h9 := h9.symm
      subst h8
      subst h9
      refine lv_if_ne (tgt := 15) cx.x cx.b dX11_at_9 (by decide) (fun hb9 => ?_) (fun hb9 => absurd hv (isS.mp hb9))
      refine lv_iload_n cx.x cx.b dX11_at_15 rfl (lv_at hl 2 rfl) ?_
      refine lv_iconst (v := 0) cx.x cx.b dX11_at_16 (by decide) ?_
      refine lv_aload_n cx.x cx.b dX11_at_17 rfl (lv_at hl 0 rfl) ?_
      refine gt_f (v := .ref (M 7)) cx hw 0 (mw_h σ 0 fl dv) rfl inX11 8 (by decide) tw_765 ⟨rfl, rfl, Or.inl rfl⟩ rfl dX11_at_18 ?_
      refine lv_iload_n cx.x cx.b dX11_at_21 rfl (lv_at hl 1 rfl) ?_
      refine ald_i (f := (s_z σ)) cx hw 7 0 rfl rfl k rfl hk (by decide) dX11_at_22 ?_
      refine lv_iconst (v := 1) cx.x cx.b dX11_at_23 (by decide) ?_
      refine lv_isub cx.x cx.b dX11_at_24 ?_
      refine cgo_i cx hw (rS_i (n := 3) (As := [.int (nI j), .int 0, .int ((s_z σ k) - 1)]) (rest := []) cx hw (c_X11_within l D M Q σ 0 fl dv (nI j) 0 ((s_z σ k) - 1)) (gd_S tw_817 tw_818 tw_4 tw_819) ⟨by decide +kernel, rfl, hl.1, (Nat.le_of_ble_eq_true rfl), ⟨(Nat.le_of_ble_eq_true rfl), (Nat.le_of_ble_eq_true rfl)⟩, ⟨(Nat.le_of_ble_eq_true rfl), (Nat.le_of_ble_eq_true rfl)⟩, rfl, rfl⟩ rfl dX11_at_25) (fun r u H locs hp hw => ?_)
      obtain ⟨h8, h9⟩ := hp
      have h8 := h8.symm
      have h9 := h9.symm
      subst h8
      subst h9
      refine lv_if_eq (tgt := 45) cx.x cx.b dX11_at_28 (by decide) (fun hb28 => absurd hpp ((isP hzj).mp hb28)) (fun hb28 => ?_)
      refine lv_aload_n cx.x cx.b dX11_at_31 rfl (lv_at hl 0 rfl) ?_
      refine gt_f (v := .ref (M 8)) cx hw 0 (mw_h σ 0 fl dv) rfl inX11 9 (by decide) tw_766 ⟨rfl, rfl, Or.inl rfl⟩ rfl dX11_at_32 ?_
      refine lv_bipush (v := 8) cx.x cx.b dX11_at_35 (by decide) ?_
      refine lv_iload_n cx.x cx.b dX11_at_37 rfl (lv_at hl 1 rfl) ?_
      refine lv_imul cx.x cx.b dX11_at_38 ?_
      refine lv_iload_n cx.x cx.b dX11_at_39 rfl (lv_at hl 2 rfl) ?_
      refine lv_iadd cx.x cx.b dX11_at_40 ?_
      refine ald_i (f := (fun x9 => s_r σ (x9 / 8) (x9 % 8))) cx hw 8 0 rfl rfl (8 * k + j) i8 (by omega) (by decide) dX11_at_41 ?_
      refine lv_goto (tgt := 46) cx.x cx.b dX11_at_42 (by decide) ?_
      exact ret_i (σ, 0, fl, dv) cx hw (okM_0 (by unfold aAt; rw [if_pos hv, cl4 hk, if_pos hpp, row_clamp hj, show (8 * k + j) / 8 = k by omega, show (8 * k + j) % 8 = j by omega])) dX11_at_46 (Nat.le_of_ble_eq_true rfl) (Nat.le_of_ble_eq_true rfl)
    · by_cases hz0 : s_z σ k = -1
      · refine lv_aload_n cx.x cx.b dX11_at_0 rfl (lv_at hl 0 rfl) ?_
        refine lv_iconst (v := 0) cx.x cx.b dX11_at_1 (by decide) ?_
        refine pt_f cx hw 0 (mw_h σ th fl dv) rfl inX11 tyX11 tyX11_ok nmX11 0 (by decide) tw_757 ⟨rfl, rfl, Or.inl rfl⟩ rfl rfl rfl rfl (Nat.le_of_ble_eq_true rfl) dX11_at_2 (w1 := mw M Q (σ, 0, fl, dv)) mw_p0 (fun H locs hw => ?_)
        refine lv_iload_n cx.x cx.b dX11_at_5 rfl (lv_at hl 1 rfl) ?_
        refine cgo_i cx hw (rS_i (n := 1) (As := [.int (nI k)]) (rest := []) cx hw (c_X11_isShelf l D M Q σ 0 fl dv (nI k)) (gd_S tw_824 tw_825 tw_4 tw_826) ⟨by decide +kernel, rfl, hl.1, (Nat.le_of_ble_eq_true rfl), ⟨(Nat.le_of_ble_eq_true rfl), (Nat.le_of_ble_eq_true rfl)⟩, ⟨(Nat.le_of_ble_eq_true rfl), (Nat.le_of_ble_eq_true rfl)⟩, rfl, rfl⟩ rfl dX11_at_6) (fun r u H locs hp hw => ?_)
        obtain ⟨h8, h9⟩ := hp
        have h8 := h8.symm
        have h9 := h9.symm
        subst h8
        subst h9
        refine lv_if_ne (tgt := 15) cx.x cx.b dX11_at_9 (by decide) (fun hb9 => ?_) (fun hb9 => absurd hv (isS.mp hb9))
        refine lv_iload_n cx.x cx.b dX11_at_15 rfl (lv_at hl 2 rfl) ?_
        refine lv_iconst (v := 0) cx.x cx.b dX11_at_16 (by decide) ?_
        refine lv_aload_n cx.x cx.b dX11_at_17 rfl (lv_at hl 0 rfl) ?_
        refine gt_f (v := .ref (M 7)) cx hw 0 (mw_h σ 0 fl dv) rfl inX11 8 (by decide) tw_765 ⟨rfl, rfl, Or.inl rfl⟩ rfl dX11_at_18 ?_
        refine lv_iload_n cx.x cx.b dX11_at_21 rfl (lv_at hl 1 rfl) ?_
        refine ald_i (f := (s_z σ)) cx hw 7 0 rfl rfl k rfl hk (by decide) dX11_at_22 ?_
        refine lv_iconst (v := 1) cx.x cx.b dX11_at_23 (by decide) ?_
        refine lv_isub cx.x cx.b dX11_at_24 ?_
        refine cgo_i cx hw (rS_i (n := 3) (As := [.int pl, .int 0, .int ((s_z σ k) - 1)]) (rest := []) cx hw (c_X11_within l D M Q σ 0 fl dv pl 0 ((s_z σ k) - 1)) (gd_S tw_817 tw_818 tw_4 tw_819) ⟨by decide +kernel, rfl, hl.1, (Nat.le_of_ble_eq_true rfl), ⟨(Nat.le_of_ble_eq_true rfl), (Nat.le_of_ble_eq_true rfl)⟩, ⟨(Nat.le_of_ble_eq_true rfl), (Nat.le_of_ble_eq_true rfl)⟩, rfl, rfl⟩ rfl dX11_at_25) (fun r u H locs hp hw => ?_)
        obtain ⟨h8, h9⟩ := hp
        have h8 := h8.symm
        have h9 := h9.symm
        subst h8
        subst h9
        refine lv_if_eq (tgt := 45) cx.x cx.b dX11_at_28 (by decide) (fun hb28 => ?_) (fun hb28 => absurd (by rw [hz0, wth_eq0]; exact fun h => absurd (Int32.le_trans h.1 h.2) (by decide)) hb28)
        refine lv_iconst (v := (-1)) cx.x cx.b dX11_at_45 (by decide) ?_
        exact ret_i (σ, 0, fl, dv) cx hw (okM_0 (by unfold aAt; rw [if_pos hv, cl4 hk, if_neg hpp])) dX11_at_46 (Nat.le_of_ble_eq_true rfl) (Nat.le_of_ble_eq_true rfl)
      · refine lv_aload_n cx.x cx.b dX11_at_0 rfl (lv_at hl 0 rfl) ?_
        refine lv_iconst (v := 0) cx.x cx.b dX11_at_1 (by decide) ?_
        refine pt_f cx hw 0 (mw_h σ th fl dv) rfl inX11 tyX11 tyX11_ok nmX11 0 (by decide) tw_757 ⟨rfl, rfl, Or.inl rfl⟩ rfl rfl rfl rfl (Nat.le_of_ble_eq_true rfl) dX11_at_2 (w1 := mw M Q (σ, 0, fl, dv)) mw_p0 (fun H locs hw => ?_)
        refine lv_iload_n cx.x cx.b dX11_at_5 rfl (lv_at hl 1 rfl) ?_
        refine cgo_i cx hw (rS_i (n := 1) (As := [.int (nI k)]) (rest := []) cx hw (c_X11_isShelf l D M Q σ 0 fl dv (nI k)) (gd_S tw_824 tw_825 tw_4 tw_826) ⟨by decide +kernel, rfl, hl.1, (Nat.le_of_ble_eq_true rfl), ⟨(Nat.le_of_ble_eq_true rfl), (Nat.le_of_ble_eq_true rfl)⟩, ⟨(Nat.le_of_ble_eq_true rfl), (Nat.le_of_ble_eq_true rfl)⟩, rfl, rfl⟩ rfl dX11_at_6) (fun r u H locs hp hw => ?_)
        obtain ⟨h8, h9⟩ := hp
        have h8 := h8.symm
        have h9 := h9.symm
        subst h8
        subst h9
        refine lv_if_ne (tgt := 15) cx.x cx.b dX11_at_9 (by decide) (fun hb9 => ?_) (fun hb9 => absurd hv (isS.mp hb9))
        refine lv_iload_n cx.x cx.b dX11_at_15 rfl (lv_at hl 2 rfl) ?_
        refine lv_iconst (v := 0) cx.x cx.b dX11_at_16 (by decide) ?_
        refine lv_aload_n cx.x cx.b dX11_at_17 rfl (lv_at hl 0 rfl) ?_
        refine gt_f (v := .ref (M 7)) cx hw 0 (mw_h σ 0 fl dv) rfl inX11 8 (by decide) tw_765 ⟨rfl, rfl, Or.inl rfl⟩ rfl dX11_at_18 ?_
        refine lv_iload_n cx.x cx.b dX11_at_21 rfl (lv_at hl 1 rfl) ?_
        refine ald_i (f := (s_z σ)) cx hw 7 0 rfl rfl k rfl hk (by decide) dX11_at_22 ?_
        refine lv_iconst (v := 1) cx.x cx.b dX11_at_23 (by decide) ?_
        refine lv_isub cx.x cx.b dX11_at_24 ?_
        refine cgo_i cx hw (rS_i (n := 3) (As := [.int pl, .int 0, .int ((s_z σ k) - 1)]) (rest := []) cx hw (c_X11_within l D M Q σ 0 fl dv pl 0 ((s_z σ k) - 1)) (gd_S tw_817 tw_818 tw_4 tw_819) ⟨by decide +kernel, rfl, hl.1, (Nat.le_of_ble_eq_true rfl), ⟨(Nat.le_of_ble_eq_true rfl), (Nat.le_of_ble_eq_true rfl)⟩, ⟨(Nat.le_of_ble_eq_true rfl), (Nat.le_of_ble_eq_true rfl)⟩, rfl, rfl⟩ rfl dX11_at_25) (fun r u H locs hp hw => ?_)
        obtain ⟨h8, h9⟩ := hp
        have h8 := h8.symm
        have h9 := h9.symm
        subst h8
        subst h9
        refine lv_if_eq (tgt := 45) cx.x cx.b dX11_at_28 (by decide) (fun hb28 => ?_) (fun hb28 => absurd ((isP ((hz k hk).resolve_left hz0)).mpr hpp) hb28)
        refine lv_iconst (v := (-1)) cx.x cx.b dX11_at_45 (by decide) ?_
        exact ret_i (σ, 0, fl, dv) cx hw (okM_0 (by unfold aAt; rw [if_pos hv, cl4 hk, if_neg hpp])) dX11_at_46 (Nat.le_of_ble_eq_true rfl) (Nat.le_of_ble_eq_true rfl)
  · refine lv_aload_n cx.x cx.b dX11_at_0 rfl (lv_at hl 0 rfl) ?_
    refine lv_iconst (v := 0) cx.x cx.b dX11_at_1 (by decide) ?_
    refine pt_f cx hw 0 (mw_h σ th fl dv) rfl inX11 tyX11 tyX11_ok nmX11 0 (by decide) tw_757 ⟨rfl, rfl, Or.inl rfl⟩ rfl rfl rfl rfl (Nat.le_of_ble_eq_true rfl) dX11_at_2 (w1 := mw M Q (σ, 0, fl, dv)) mw_p0 (fun H locs hw => ?_)
    refine lv_iload_n cx.x cx.b dX11_at_5 rfl (lv_at hl 1 rfl) ?_
    refine cgo_i cx hw (rS_i (n := 1) (As := [.int ks]) (rest := []) cx hw (c_X11_isShelf l D M Q σ 0 fl dv ks) (gd_S tw_824 tw_825 tw_4 tw_826) ⟨by decide +kernel, rfl, hl.1, (Nat.le_of_ble_eq_true rfl), ⟨(Nat.le_of_ble_eq_true rfl), (Nat.le_of_ble_eq_true rfl)⟩, ⟨(Nat.le_of_ble_eq_true rfl), (Nat.le_of_ble_eq_true rfl)⟩, rfl, rfl⟩ rfl dX11_at_6) (fun r u H locs hp hw => ?_)
    obtain ⟨h8, h9⟩ := hp
    have h8 := h8.symm
    have h9 := h9.symm
    subst h8
    subst h9
    refine lv_if_ne (tgt := 15) cx.x cx.b dX11_at_9 (by decide) (fun hb9 => absurd (isS.mpr hv) hb9) (fun hb9 => ?_)
    refine lv_bipush (v := (-102)) cx.x cx.b dX11_at_12 (by decide) ?_
    exact ret_i (σ, 0, fl, dv) cx hw (okM_0 (by unfold aAt; rw [if_neg hv])) dX11_at_14 (Nat.le_of_ble_eq_true rfl) (Nat.le_of_ble_eq_true rfl)
set_option maxHeartbeats 4000000 in
set_option maxRecDepth 100000 in
theorem c_X11_tell (l : Launch) (D : va_G) (M : Nat → Nat) (Q : Nat → ClassId) (σ : St) (th fl dv : Int32) {b : Nat} (hI : Inv (b + 100) σ) (lo wh : Int32) : MI l yX11_tell cX11_tell 3 .int ({ frames := 2, cells := 0, slots := 0, locals := 43 }) D cls (tyl Q) [.ref (M 0), .int lo, .int wh] (mw M Q) (mw M Q (σ, th, fl, dv)) (okM (aTell σ lo wh)) 0 0 := by
  refine MI_of (by decide) (Nat.le_of_ble_eq_true rfl) ?_
  intro p e s m args below meth c A ls cx hw hl
  have hl : lv_has ls 3 [(0, .ref (M 0)), (1, .int lo), (2, .int wh)] := hl
  have hN9 := hI.n
  have hb9 : s_N σ + 100 < 2 ^ 30 := by have := hI.2.2.2.2.1; omega
  by_cases hv : okL σ lo
  · obtain ⟨i, hn, rfl⟩ := okL_i hN9 hv
    have hd := hI.k hn
    have hi : i < 20 := by omega
    by_cases w0 : wh = 0
    · subst w0
      refine lv_aload_n cx.x cx.b dX11_tell_0 rfl (lv_at hl 0 rfl) ?_
      refine lv_iconst (v := 0) cx.x cx.b dX11_tell_1 (by decide) ?_
      refine pt_f cx hw 0 (mw_h σ th fl dv) rfl inX11 tyX11 tyX11_ok nmX11 0 (by decide) tw_757 ⟨rfl, rfl, Or.inl rfl⟩ rfl rfl rfl rfl (Nat.le_of_ble_eq_true rfl) dX11_tell_2 (w1 := mw M Q (σ, 0, fl, dv)) mw_p0 (fun H locs hw => ?_)
      refine lv_aload_n cx.x cx.b dX11_tell_5 rfl (lv_at hl 0 rfl) ?_
      refine lv_iload_n cx.x cx.b dX11_tell_6 rfl (lv_at hl 1 rfl) ?_
      refine cgo_i cx hw (rV_i (q0 := 0) (n := 1) (As := [.int (nI i)]) (rest := []) cx hw (c_X11_isLoaf l D M Q σ 0 fl dv (nI i)) (gd_V tw_835 tw_837 ts_7 tw_4 tw_838) rfl ⟨by decide +kernel, rfl, hl.1, (Nat.le_of_ble_eq_true rfl), ⟨(Nat.le_of_ble_eq_true rfl), (Nat.le_of_ble_eq_true rfl)⟩, ⟨(Nat.le_of_ble_eq_true rfl), (Nat.le_of_ble_eq_true rfl)⟩, rfl, rfl⟩ rfl (mw_h σ 0 fl dv) rfl dX11_tell_7) (fun r u H locs hp hw => ?_)
      obtain ⟨h8, h9⟩ := hp
      have h8 := h8.symm
      have h9 := h9.symm
      subst h8
      subst h9
      refine lv_if_ne (tgt := 16) cx.x cx.b dX11_tell_10 (by decide) (fun hb10 => ?_) (fun hb10 => absurd hv ((isL hN9).mp hb10))
      refine lv_iload_n cx.x cx.b dX11_tell_16 rfl (lv_at hl 2 rfl) ?_
      refine lv_tableIn (tgt := 56) cx.x cx.b dX11_tell_17 (by decide) (by decide) rfl (by decide) ?_
      refine lv_aload_n cx.x cx.b dX11_tell_56 rfl (lv_at hl 0 rfl) ?_
      refine gt_f (v := .ref (M 1)) cx hw 0 (mw_h σ 0 fl dv) rfl inX11 2 (by decide) tw_759 ⟨rfl, rfl, Or.inl rfl⟩ rfl dX11_tell_57 ?_
      refine lv_iload_n cx.x cx.b dX11_tell_60 rfl (lv_at hl 1 rfl) ?_
      refine ald_i (f := (fun x9 => nI (s_k σ x9))) cx hw 1 0 rfl rfl i rfl hi (by decide) dX11_tell_61 ?_
      exact ret_i (σ, 0, fl, dv) cx hw (okM_0 (by unfold aTell; rw [if_pos hv, cl20 hN9 hn, if_pos rfl])) dX11_tell_62 (Nat.le_of_ble_eq_true rfl) (Nat.le_of_ble_eq_true rfl)
    · by_cases w1 : wh = 1
      · subst w1
        refine lv_aload_n cx.x cx.b dX11_tell_0 rfl (lv_at hl 0 rfl) ?_
        refine lv_iconst (v := 0) cx.x cx.b dX11_tell_1 (by decide) ?_
        refine pt_f cx hw 0 (mw_h σ th fl dv) rfl inX11 tyX11 tyX11_ok nmX11 0 (by decide) tw_757 ⟨rfl, rfl, Or.inl rfl⟩ rfl rfl rfl rfl (Nat.le_of_ble_eq_true rfl) dX11_tell_2 (w1 := mw M Q (σ, 0, fl, dv)) mw_p0 (fun H locs hw => ?_)
        refine lv_aload_n cx.x cx.b dX11_tell_5 rfl (lv_at hl 0 rfl) ?_
        refine lv_iload_n cx.x cx.b dX11_tell_6 rfl (lv_at hl 1 rfl) ?_
        refine cgo_i cx hw (rV_i (q0 := 0) (n := 1) (As := [.int (nI i)]) (rest := []) cx hw (c_X11_isLoaf l D M Q σ 0 fl dv (nI i)) (gd_V tw_835 tw_837 ts_7 tw_4 tw_838) rfl ⟨by decide +kernel, rfl, hl.1, (Nat.le_of_ble_eq_true rfl), ⟨(Nat.le_of_ble_eq_true rfl), (Nat.le_of_ble_eq_true rfl)⟩, ⟨(Nat.le_of_ble_eq_true rfl), (Nat.le_of_ble_eq_true rfl)⟩, rfl, rfl⟩ rfl (mw_h σ 0 fl dv) rfl dX11_tell_7) (fun r u H locs hp hw => ?_)
        obtain ⟨h8, h9⟩ := hp
        have h8 := h8.symm
        have h9 := h9.symm
        subst h8
        subst h9
        refine lv_if_ne (tgt := 16) cx.x cx.b dX11_tell_10 (by decide) (fun hb10 => ?_) (fun hb10 => absurd hv ((isL hN9).mp hb10))
        refine lv_iload_n cx.x cx.b dX11_tell_16 rfl (lv_at hl 2 rfl) ?_
        refine lv_tableIn (tgt := 63) cx.x cx.b dX11_tell_17 (by decide) (by decide) rfl (by decide) ?_
        refine lv_aload_n cx.x cx.b dX11_tell_63 rfl (lv_at hl 0 rfl) ?_
        refine gt_f (v := .ref (M 2)) cx hw 0 (mw_h σ 0 fl dv) rfl inX11 3 (by decide) tw_760 ⟨rfl, rfl, Or.inl rfl⟩ rfl dX11_tell_64 ?_
        refine lv_iload_n cx.x cx.b dX11_tell_67 rfl (lv_at hl 1 rfl) ?_
        refine ald_i (f := (s_F σ 3)) cx hw 2 0 rfl rfl i rfl hi (by decide) dX11_tell_68 ?_
        exact ret_i (σ, 0, fl, dv) cx hw (okM_0 (by unfold aTell; rw [if_pos hv, cl20 hN9 hn, if_neg (by decide : ¬ (1 : Int32) = 0), if_pos rfl])) dX11_tell_69 (Nat.le_of_ble_eq_true rfl) (Nat.le_of_ble_eq_true rfl)
      · by_cases w2 : wh = 2
        · subst w2
          refine lv_aload_n cx.x cx.b dX11_tell_0 rfl (lv_at hl 0 rfl) ?_
          refine lv_iconst (v := 0) cx.x cx.b dX11_tell_1 (by decide) ?_
          refine pt_f cx hw 0 (mw_h σ th fl dv) rfl inX11 tyX11 tyX11_ok nmX11 0 (by decide) tw_757 ⟨rfl, rfl, Or.inl rfl⟩ rfl rfl rfl rfl (Nat.le_of_ble_eq_true rfl) dX11_tell_2 (w1 := mw M Q (σ, 0, fl, dv)) mw_p0 (fun H locs hw => ?_)
          refine lv_aload_n cx.x cx.b dX11_tell_5 rfl (lv_at hl 0 rfl) ?_
          refine lv_iload_n cx.x cx.b dX11_tell_6 rfl (lv_at hl 1 rfl) ?_
          refine cgo_i cx hw (rV_i (q0 := 0) (n := 1) (As := [.int (nI i)]) (rest := []) cx hw (c_X11_isLoaf l D M Q σ 0 fl dv (nI i)) (gd_V tw_835 tw_837 ts_7 tw_4 tw_838) rfl ⟨by decide +kernel, rfl, hl.1, (Nat.le_of_ble_eq_true rfl), ⟨(Nat.le_of_ble_eq_true rfl), (Nat.le_of_ble_eq_true rfl)⟩, ⟨(Nat.le_of_ble_eq_true rfl), (Nat.le_of_ble_eq_true rfl)⟩, rfl, rfl⟩ rfl (mw_h σ 0 fl dv) rfl dX11_tell_7) (fun r u H locs hp hw => ?_)
          obtain ⟨h8, h9⟩ := hp
          have h8 := h8.symm
          have h9 := h9.symm
          subst h8
          subst h9
          refine lv_if_ne (tgt := 16) cx.x cx.b dX11_tell_10 (by decide) (fun hb10 => ?_) (fun hb10 => absurd hv ((isL hN9).mp hb10))
          refine lv_iload_n cx.x cx.b dX11_tell_16 rfl (lv_at hl 2 rfl) ?_
          refine lv_tableIn (tgt := 70) cx.x cx.b dX11_tell_17 (by decide) (by decide) rfl (by decide) ?_
          refine lv_aload_n cx.x cx.b dX11_tell_70 rfl (lv_at hl 0 rfl) ?_
          refine gt_f (v := .ref (M 3)) cx hw 0 (mw_h σ 0 fl dv) rfl inX11 4 (by decide) tw_761 ⟨rfl, rfl, Or.inl rfl⟩ rfl dX11_tell_71 ?_
          refine lv_iload_n cx.x cx.b dX11_tell_74 rfl (lv_at hl 1 rfl) ?_
          refine ald_i (f := (s_F σ 4)) cx hw 3 0 rfl rfl i rfl hi (by decide) dX11_tell_75 ?_
          exact ret_i (σ, 0, fl, dv) cx hw (okM_0 (by unfold aTell; rw [if_pos hv, cl20 hN9 hn, if_neg (by decide : ¬ (2 : Int32) = 0), if_neg (by decide : ¬ (2 : Int32) = 1), if_pos rfl])) dX11_tell_76 (Nat.le_of_ble_eq_true rfl) (Nat.le_of_ble_eq_true rfl)
        · by_cases w3 : wh = 3
          · subst w3
            refine lv_aload_n cx.x cx.b dX11_tell_0 rfl (lv_at hl 0 rfl) ?_
            refine lv_iconst (v := 0) cx.x cx.b dX11_tell_1 (by decide) ?_
            refine pt_f cx hw 0 (mw_h σ th fl dv) rfl inX11 tyX11 tyX11_ok nmX11 0 (by decide) tw_757 ⟨rfl, rfl, Or.inl rfl⟩ rfl rfl rfl rfl (Nat.le_of_ble_eq_true rfl) dX11_tell_2 (w1 := mw M Q (σ, 0, fl, dv)) mw_p0 (fun H locs hw => ?_)
            refine lv_aload_n cx.x cx.b dX11_tell_5 rfl (lv_at hl 0 rfl) ?_
            refine lv_iload_n cx.x cx.b dX11_tell_6 rfl (lv_at hl 1 rfl) ?_
            refine cgo_i cx hw (rV_i (q0 := 0) (n := 1) (As := [.int (nI i)]) (rest := []) cx hw (c_X11_isLoaf l D M Q σ 0 fl dv (nI i)) (gd_V tw_835 tw_837 ts_7 tw_4 tw_838) rfl ⟨by decide +kernel, rfl, hl.1, (Nat.le_of_ble_eq_true rfl), ⟨(Nat.le_of_ble_eq_true rfl), (Nat.le_of_ble_eq_true rfl)⟩, ⟨(Nat.le_of_ble_eq_true rfl), (Nat.le_of_ble_eq_true rfl)⟩, rfl, rfl⟩ rfl (mw_h σ 0 fl dv) rfl dX11_tell_7) (fun r u H locs hp hw => ?_)
            obtain ⟨h8, h9⟩ := hp
            have h8 := h8.symm
            have h9 := h9.symm
            subst h8
            subst h9
            refine lv_if_ne (tgt := 16) cx.x cx.b dX11_tell_10 (by decide) (fun hb10 => ?_) (fun hb10 => absurd hv ((isL hN9).mp hb10))
            refine lv_iload_n cx.x cx.b dX11_tell_16 rfl (lv_at hl 2 rfl) ?_
            refine lv_tableIn (tgt := 77) cx.x cx.b dX11_tell_17 (by decide) (by decide) rfl (by decide) ?_
            refine lv_aload_n cx.x cx.b dX11_tell_77 rfl (lv_at hl 0 rfl) ?_
            refine gt_f (v := .ref (M 4)) cx hw 0 (mw_h σ 0 fl dv) rfl inX11 5 (by decide) tw_762 ⟨rfl, rfl, Or.inl rfl⟩ rfl dX11_tell_78 ?_
            refine lv_iload_n cx.x cx.b dX11_tell_81 rfl (lv_at hl 1 rfl) ?_
            refine ald_i (f := (s_F σ 5)) cx hw 4 0 rfl rfl i rfl hi (by decide) dX11_tell_82 ?_
            exact ret_i (σ, 0, fl, dv) cx hw (okM_0 (by unfold aTell; rw [if_pos hv, cl20 hN9 hn, if_neg (by decide : ¬ (3 : Int32) = 0), if_neg (by decide : ¬ (3 : Int32) = 1), if_neg (by decide : ¬ (3 : Int32) = 2), if_pos rfl])) dX11_tell_83 (Nat.le_of_ble_eq_true rfl) (Nat.le_of_ble_eq_true rfl)
          · by_cases w4 : wh = 4
            · subst w4
              refine lv_aload_n cx.x cx.b dX11_tell_0 rfl (lv_at hl 0 rfl) ?_
              refine lv_iconst (v := 0) cx.x cx.b dX11_tell_1 (by decide) ?_
              refine pt_f cx hw 0 (mw_h σ th fl dv) rfl inX11 tyX11 tyX11_ok nmX11 0 (by decide) tw_757 ⟨rfl, rfl, Or.inl rfl⟩ rfl rfl rfl rfl (Nat.le_of_ble_eq_true rfl) dX11_tell_2 (w1 := mw M Q (σ, 0, fl, dv)) mw_p0 (fun H locs hw => ?_)
              refine lv_aload_n cx.x cx.b dX11_tell_5 rfl (lv_at hl 0 rfl) ?_
              refine lv_iload_n cx.x cx.b dX11_tell_6 rfl (lv_at hl 1 rfl) ?_
              refine cgo_i cx hw (rV_i (q0 := 0) (n := 1) (As := [.int (nI i)]) (rest := []) cx hw (c_X11_isLoaf l D M Q σ 0 fl dv (nI i)) (gd_V tw_835 tw_837 ts_7 tw_4 tw_838) rfl ⟨by decide +kernel, rfl, hl.1, (Nat.le_of_ble_eq_true rfl), ⟨(Nat.le_of_ble_eq_true rfl), (Nat.le_of_ble_eq_true rfl)⟩, ⟨(Nat.le_of_ble_eq_true rfl), (Nat.le_of_ble_eq_true rfl)⟩, rfl, rfl⟩ rfl (mw_h σ 0 fl dv) rfl dX11_tell_7) (fun r u H locs hp hw => ?_)
              obtain ⟨h8, h9⟩ := hp
              have h8 := h8.symm
              have h9 := h9.symm
              subst h8
              subst h9
              refine lv_if_ne (tgt := 16) cx.x cx.b dX11_tell_10 (by decide) (fun hb10 => ?_) (fun hb10 => absurd hv ((isL hN9).mp hb10))
              refine lv_iload_n cx.x cx.b dX11_tell_16 rfl (lv_at hl 2 rfl) ?_
              refine lv_tableIn (tgt := 84) cx.x cx.b dX11_tell_17 (by decide) (by decide) rfl (by decide) ?_
              refine lv_aload_n cx.x cx.b dX11_tell_84 rfl (lv_at hl 0 rfl) ?_
              refine gt_f (v := .ref (M 5)) cx hw 0 (mw_h σ 0 fl dv) rfl inX11 6 (by decide) tw_763 ⟨rfl, rfl, Or.inl rfl⟩ rfl dX11_tell_85 ?_
              refine lv_iload_n cx.x cx.b dX11_tell_88 rfl (lv_at hl 1 rfl) ?_
              refine ald_i (f := (s_F σ 6)) cx hw 5 0 rfl rfl i rfl hi (by decide) dX11_tell_89 ?_
              exact ret_i (σ, 0, fl, dv) cx hw (okM_0 (by unfold aTell; rw [if_pos hv, cl20 hN9 hn, if_neg (by decide : ¬ (4 : Int32) = 0), if_neg (by decide : ¬ (4 : Int32) = 1), if_neg (by decide : ¬ (4 : Int32) = 2), if_neg (by decide : ¬ (4 : Int32) = 3), if_pos rfl])) dX11_tell_90 (Nat.le_of_ble_eq_true rfl) (Nat.le_of_ble_eq_true rfl)
            · by_cases w5 : wh = 5
              · subst w5
                refine lv_aload_n cx.x cx.b dX11_tell_0 rfl (lv_at hl 0 rfl) ?_
                refine lv_iconst (v := 0) cx.x cx.b dX11_tell_1 (by decide) ?_
                refine pt_f cx hw 0 (mw_h σ th fl dv) rfl inX11 tyX11 tyX11_ok nmX11 0 (by decide) tw_757 ⟨rfl, rfl, Or.inl rfl⟩ rfl rfl rfl rfl (Nat.le_of_ble_eq_true rfl) dX11_tell_2 (w1 := mw M Q (σ, 0, fl, dv)) mw_p0 (fun H locs hw => ?_)
                refine lv_aload_n cx.x cx.b dX11_tell_5 rfl (lv_at hl 0 rfl) ?_
                refine lv_iload_n cx.x cx.b dX11_tell_6 rfl (lv_at hl 1 rfl) ?_
                refine cgo_i cx hw (rV_i (q0 := 0) (n := 1) (As := [.int (nI i)]) (rest := []) cx hw (c_X11_isLoaf l D M Q σ 0 fl dv (nI i)) (gd_V tw_835 tw_837 ts_7 tw_4 tw_838) rfl ⟨by decide +kernel, rfl, hl.1, (Nat.le_of_ble_eq_true rfl), ⟨(Nat.le_of_ble_eq_true rfl), (Nat.le_of_ble_eq_true rfl)⟩, ⟨(Nat.le_of_ble_eq_true rfl), (Nat.le_of_ble_eq_true rfl)⟩, rfl, rfl⟩ rfl (mw_h σ 0 fl dv) rfl dX11_tell_7) (fun r u H locs hp hw => ?_)
                obtain ⟨h8, h9⟩ := hp
                have h8 := h8.symm
                have h9 := h9.symm
                subst h8
                subst h9
                refine lv_if_ne (tgt := 16) cx.x cx.b dX11_tell_10 (by decide) (fun hb10 => ?_) (fun hb10 => absurd hv ((isL hN9).mp hb10))
                refine lv_iload_n cx.x cx.b dX11_tell_16 rfl (lv_at hl 2 rfl) ?_
                refine lv_tableIn (tgt := 91) cx.x cx.b dX11_tell_17 (by decide) (by decide) rfl (by decide) ?_
                refine lv_aload_n cx.x cx.b dX11_tell_91 rfl (lv_at hl 0 rfl) ?_
                refine gt_f (v := .ref (M 6)) cx hw 0 (mw_h σ 0 fl dv) rfl inX11 7 (by decide) tw_764 ⟨rfl, rfl, Or.inl rfl⟩ rfl dX11_tell_92 ?_
                refine lv_iload_n cx.x cx.b dX11_tell_95 rfl (lv_at hl 1 rfl) ?_
                refine ald_i (f := (s_F σ 7)) cx hw 6 0 rfl rfl i rfl hi (by decide) dX11_tell_96 ?_
                exact ret_i (σ, 0, fl, dv) cx hw (okM_0 (by unfold aTell; rw [if_pos hv, cl20 hN9 hn, if_neg (by decide : ¬ (5 : Int32) = 0), if_neg (by decide : ¬ (5 : Int32) = 1), if_neg (by decide : ¬ (5 : Int32) = 2), if_neg (by decide : ¬ (5 : Int32) = 3), if_neg (by decide : ¬ (5 : Int32) = 4), if_pos rfl])) dX11_tell_97 (Nat.le_of_ble_eq_true rfl) (Nat.le_of_ble_eq_true rfl)
              · refine lv_aload_n cx.x cx.b dX11_tell_0 rfl (lv_at hl 0 rfl) ?_
                refine lv_iconst (v := 0) cx.x cx.b dX11_tell_1 (by decide) ?_
                refine pt_f cx hw 0 (mw_h σ th fl dv) rfl inX11 tyX11 tyX11_ok nmX11 0 (by decide) tw_757 ⟨rfl, rfl, Or.inl rfl⟩ rfl rfl rfl rfl (Nat.le_of_ble_eq_true rfl) dX11_tell_2 (w1 := mw M Q (σ, 0, fl, dv)) mw_p0 (fun H locs hw => ?_)
                refine lv_aload_n cx.x cx.b dX11_tell_5 rfl (lv_at hl 0 rfl) ?_
                refine lv_iload_n cx.x cx.b dX11_tell_6 rfl (lv_at hl 1 rfl) ?_
                refine cgo_i cx hw (rV_i (q0 := 0) (n := 1) (As := [.int (nI i)]) (rest := []) cx hw (c_X11_isLoaf l D M Q σ 0 fl dv (nI i)) (gd_V tw_835 tw_837 ts_7 tw_4 tw_838) rfl ⟨by decide +kernel, rfl, hl.1, (Nat.le_of_ble_eq_true rfl), ⟨(Nat.le_of_ble_eq_true rfl), (Nat.le_of_ble_eq_true rfl)⟩, ⟨(Nat.le_of_ble_eq_true rfl), (Nat.le_of_ble_eq_true rfl)⟩, rfl, rfl⟩ rfl (mw_h σ 0 fl dv) rfl dX11_tell_7) (fun r u H locs hp hw => ?_)
                obtain ⟨h8, h9⟩ := hp
                have h8 := h8.symm
                have h9 := h9.symm
                subst h8
                subst h9
                refine lv_if_ne (tgt := 16) cx.x cx.b dX11_tell_10 (by decide) (fun hb10 => ?_) (fun hb10 => absurd hv ((isL hN9).mp hb10))
                refine lv_iload_n cx.x cx.b dX11_tell_16 rfl (lv_at hl 2 rfl) ?_
                refine lv_tableOut (tgt := 98) cx.x cx.b dX11_tell_17 (sw_o5 w0 w1 w2 w3 w4 w5) (by decide) ?_
                refine lv_bipush (v := (-102)) cx.x cx.b dX11_tell_98 (by decide) ?_
                exact ret_i (σ, 0, fl, dv) cx hw (okM_0 (by unfold aTell; rw [if_pos hv, cl20 hN9 hn, if_neg w0, if_neg w1, if_neg w2, if_neg w3, if_neg w4, if_neg w5])) dX11_tell_100 (Nat.le_of_ble_eq_true rfl) (Nat.le_of_ble_eq_true rfl)
  · refine lv_aload_n cx.x cx.b dX11_tell_0 rfl (lv_at hl 0 rfl) ?_
    refine lv_iconst (v := 0) cx.x cx.b dX11_tell_1 (by decide) ?_
    refine pt_f cx hw 0 (mw_h σ th fl dv) rfl inX11 tyX11 tyX11_ok nmX11 0 (by decide) tw_757 ⟨rfl, rfl, Or.inl rfl⟩ rfl rfl rfl rfl (Nat.le_of_ble_eq_true rfl) dX11_tell_2 (w1 := mw M Q (σ, 0, fl, dv)) mw_p0 (fun H locs hw => ?_)
    refine lv_aload_n cx.x cx.b dX11_tell_5 rfl (lv_at hl 0 rfl) ?_
    refine lv_iload_n cx.x cx.b dX11_tell_6 rfl (lv_at hl 1 rfl) ?_
    refine cgo_i cx hw (rV_i (q0 := 0) (n := 1) (As := [.int lo]) (rest := []) cx hw (c_X11_isLoaf l D M Q σ 0 fl dv lo) (gd_V tw_835 tw_837 ts_7 tw_4 tw_838) rfl ⟨by decide +kernel, rfl, hl.1, (Nat.le_of_ble_eq_true rfl), ⟨(Nat.le_of_ble_eq_true rfl), (Nat.le_of_ble_eq_true rfl)⟩, ⟨(Nat.le_of_ble_eq_true rfl), (Nat.le_of_ble_eq_true rfl)⟩, rfl, rfl⟩ rfl (mw_h σ 0 fl dv) rfl dX11_tell_7) (fun r u H locs hp hw => ?_)
    obtain ⟨h8, h9⟩ := hp
    have h8 := h8.symm
    have h9 := h9.symm
    subst h8
    subst h9
    refine lv_if_ne (tgt := 16) cx.x cx.b dX11_tell_10 (by decide) (fun hb10 => absurd ((isL hN9).mpr hv) hb10) (fun hb10 => ?_)
    refine lv_bipush (v := (-101)) cx.x cx.b dX11_tell_13 (by decide) ?_
    exact ret_i (σ, 0, fl, dv) cx hw (okM_0 (by unfold aTell; rw [if_neg hv])) dX11_tell_15 (Nat.le_of_ble_eq_true rfl) (Nat.le_of_ble_eq_true rfl)
set_option maxHeartbeats 4000000 in
set_option maxRecDepth 100000 in
theorem c_X11_count (l : Launch) (D : va_G) (M : Nat → Nat) (Q : Nat → ClassId) (σ : St) (th fl dv : Int32) (wh : Int32) : MI l yX11_count cX11_count 2 .int ({ frames := 0, cells := 0, slots := 0, locals := 0 }) D cls (tyl Q) [.ref (M 0), .int wh] (mw M Q) (mw M Q (σ, th, fl, dv)) (okM (aCount σ wh)) 0 0 := by
  refine MI_of (by decide) (Nat.le_of_ble_eq_true rfl) ?_
  intro p e s m args below meth c A ls cx hw hl
  have hl : lv_has ls 2 [(0, .ref (M 0)), (1, .int wh)] := hl
  by_cases w0 : wh = 0
  · subst w0
    refine lv_aload_n cx.x cx.b dX11_count_0 rfl (lv_at hl 0 rfl) ?_
    refine lv_iconst (v := 0) cx.x cx.b dX11_count_1 (by decide) ?_
    refine pt_f cx hw 0 (mw_h σ th fl dv) rfl inX11 tyX11 tyX11_ok nmX11 0 (by decide) tw_757 ⟨rfl, rfl, Or.inl rfl⟩ rfl rfl rfl rfl (Nat.le_of_ble_eq_true rfl) dX11_count_2 (w1 := mw M Q (σ, 0, fl, dv)) mw_p0 (fun H locs hw => ?_)
    refine lv_iload_n cx.x cx.b dX11_count_5 rfl (lv_at hl 1 rfl) ?_
    refine lv_tableIn (tgt := 40) cx.x cx.b dX11_count_6 (by decide) (by decide) rfl (by decide) ?_
    refine lv_aload_n cx.x cx.b dX11_count_40 rfl (lv_at hl 0 rfl) ?_
    refine gt_f (v := .int (nI (s_n σ))) cx hw 0 (mw_h σ 0 fl dv) rfl inX11 1 (by decide) tw_758 ⟨rfl, rfl, Or.inl rfl⟩ rfl dX11_count_41 ?_
    exact ret_i (σ, 0, fl, dv) cx hw (okM_0 (by unfold aCount; rw [if_pos rfl])) dX11_count_44 (Nat.le_of_ble_eq_true rfl) (Nat.le_of_ble_eq_true rfl)
  · by_cases w1 : wh = 1
    · subst w1
      refine lv_aload_n cx.x cx.b dX11_count_0 rfl (lv_at hl 0 rfl) ?_
      refine lv_iconst (v := 0) cx.x cx.b dX11_count_1 (by decide) ?_
      refine pt_f cx hw 0 (mw_h σ th fl dv) rfl inX11 tyX11 tyX11_ok nmX11 0 (by decide) tw_757 ⟨rfl, rfl, Or.inl rfl⟩ rfl rfl rfl rfl (Nat.le_of_ble_eq_true rfl) dX11_count_2 (w1 := mw M Q (σ, 0, fl, dv)) mw_p0 (fun H locs hw => ?_)
      refine lv_iload_n cx.x cx.b dX11_count_5 rfl (lv_at hl 1 rfl) ?_
      refine lv_tableIn (tgt := 45) cx.x cx.b dX11_count_6 (by decide) (by decide) rfl (by decide) ?_
      refine lv_aload_n cx.x cx.b dX11_count_45 rfl (lv_at hl 0 rfl) ?_
      refine gt_f (v := .int (nI (s_N σ))) cx hw 0 (mw_h σ 0 fl dv) rfl inX11 11 (by decide) tw_768 ⟨rfl, rfl, Or.inl rfl⟩ rfl dX11_count_46 ?_
      exact ret_i (σ, 0, fl, dv) cx hw (okM_0 (by unfold aCount; rw [if_neg (by decide : ¬ (1 : Int32) = 0), if_pos rfl])) dX11_count_49 (Nat.le_of_ble_eq_true rfl) (Nat.le_of_ble_eq_true rfl)
    · by_cases w2 : wh = 2
      · subst w2
        refine lv_aload_n cx.x cx.b dX11_count_0 rfl (lv_at hl 0 rfl) ?_
        refine lv_iconst (v := 0) cx.x cx.b dX11_count_1 (by decide) ?_
        refine pt_f cx hw 0 (mw_h σ th fl dv) rfl inX11 tyX11 tyX11_ok nmX11 0 (by decide) tw_757 ⟨rfl, rfl, Or.inl rfl⟩ rfl rfl rfl rfl (Nat.le_of_ble_eq_true rfl) dX11_count_2 (w1 := mw M Q (σ, 0, fl, dv)) mw_p0 (fun H locs hw => ?_)
        refine lv_iload_n cx.x cx.b dX11_count_5 rfl (lv_at hl 1 rfl) ?_
        refine lv_tableIn (tgt := 50) cx.x cx.b dX11_count_6 (by decide) (by decide) rfl (by decide) ?_
        refine lv_aload_n cx.x cx.b dX11_count_50 rfl (lv_at hl 0 rfl) ?_
        refine gt_f (v := .int (s_c σ 4)) cx hw 0 (mw_h σ 0 fl dv) rfl inX11 12 (by decide) tw_769 ⟨rfl, rfl, Or.inl rfl⟩ rfl dX11_count_51 ?_
        exact ret_i (σ, 0, fl, dv) cx hw (okM_0 (by unfold aCount; rw [if_neg (by decide : ¬ (2 : Int32) = 0), if_neg (by decide : ¬ (2 : Int32) = 1), if_pos rfl])) dX11_count_54 (Nat.le_of_ble_eq_true rfl) (Nat.le_of_ble_eq_true rfl)
      · by_cases w3 : wh = 3
        · subst w3
          refine lv_aload_n cx.x cx.b dX11_count_0 rfl (lv_at hl 0 rfl) ?_
          refine lv_iconst (v := 0) cx.x cx.b dX11_count_1 (by decide) ?_
          refine pt_f cx hw 0 (mw_h σ th fl dv) rfl inX11 tyX11 tyX11_ok nmX11 0 (by decide) tw_757 ⟨rfl, rfl, Or.inl rfl⟩ rfl rfl rfl rfl (Nat.le_of_ble_eq_true rfl) dX11_count_2 (w1 := mw M Q (σ, 0, fl, dv)) mw_p0 (fun H locs hw => ?_)
          refine lv_iload_n cx.x cx.b dX11_count_5 rfl (lv_at hl 1 rfl) ?_
          refine lv_tableIn (tgt := 55) cx.x cx.b dX11_count_6 (by decide) (by decide) rfl (by decide) ?_
          refine lv_aload_n cx.x cx.b dX11_count_55 rfl (lv_at hl 0 rfl) ?_
          refine gt_f (v := .int (s_c σ 5)) cx hw 0 (mw_h σ 0 fl dv) rfl inX11 13 (by decide) tw_770 ⟨rfl, rfl, Or.inl rfl⟩ rfl dX11_count_56 ?_
          exact ret_i (σ, 0, fl, dv) cx hw (okM_0 (by unfold aCount; rw [if_neg (by decide : ¬ (3 : Int32) = 0), if_neg (by decide : ¬ (3 : Int32) = 1), if_neg (by decide : ¬ (3 : Int32) = 2), if_pos rfl])) dX11_count_59 (Nat.le_of_ble_eq_true rfl) (Nat.le_of_ble_eq_true rfl)
        · by_cases w4 : wh = 4
          · subst w4
            refine lv_aload_n cx.x cx.b dX11_count_0 rfl (lv_at hl 0 rfl) ?_
            refine lv_iconst (v := 0) cx.x cx.b dX11_count_1 (by decide) ?_
            refine pt_f cx hw 0 (mw_h σ th fl dv) rfl inX11 tyX11 tyX11_ok nmX11 0 (by decide) tw_757 ⟨rfl, rfl, Or.inl rfl⟩ rfl rfl rfl rfl (Nat.le_of_ble_eq_true rfl) dX11_count_2 (w1 := mw M Q (σ, 0, fl, dv)) mw_p0 (fun H locs hw => ?_)
            refine lv_iload_n cx.x cx.b dX11_count_5 rfl (lv_at hl 1 rfl) ?_
            refine lv_tableIn (tgt := 60) cx.x cx.b dX11_count_6 (by decide) (by decide) rfl (by decide) ?_
            refine lv_aload_n cx.x cx.b dX11_count_60 rfl (lv_at hl 0 rfl) ?_
            refine gt_f (v := .int (s_c σ 6)) cx hw 0 (mw_h σ 0 fl dv) rfl inX11 14 (by decide) tw_771 ⟨rfl, rfl, Or.inl rfl⟩ rfl dX11_count_61 ?_
            exact ret_i (σ, 0, fl, dv) cx hw (okM_0 (by unfold aCount; rw [if_neg (by decide : ¬ (4 : Int32) = 0), if_neg (by decide : ¬ (4 : Int32) = 1), if_neg (by decide : ¬ (4 : Int32) = 2), if_neg (by decide : ¬ (4 : Int32) = 3), if_pos rfl])) dX11_count_64 (Nat.le_of_ble_eq_true rfl) (Nat.le_of_ble_eq_true rfl)
          · refine lv_aload_n cx.x cx.b dX11_count_0 rfl (lv_at hl 0 rfl) ?_
            refine lv_iconst (v := 0) cx.x cx.b dX11_count_1 (by decide) ?_
            refine pt_f cx hw 0 (mw_h σ th fl dv) rfl inX11 tyX11 tyX11_ok nmX11 0 (by decide) tw_757 ⟨rfl, rfl, Or.inl rfl⟩ rfl rfl rfl rfl (Nat.le_of_ble_eq_true rfl) dX11_count_2 (w1 := mw M Q (σ, 0, fl, dv)) mw_p0 (fun H locs hw => ?_)
            refine lv_iload_n cx.x cx.b dX11_count_5 rfl (lv_at hl 1 rfl) ?_
            refine lv_tableOut (tgt := 65) cx.x cx.b dX11_count_6 (sw_o4 w0 w1 w2 w3 w4) (by decide) ?_
            refine lv_bipush (v := (-102)) cx.x cx.b dX11_count_65 (by decide) ?_
            exact ret_i (σ, 0, fl, dv) cx hw (okM_0 (by unfold aCount; rw [if_neg w0, if_neg w1, if_neg w2, if_neg w3, if_neg w4])) dX11_count_67 (Nat.le_of_ble_eq_true rfl) (Nat.le_of_ble_eq_true rfl)
set_option maxHeartbeats 4000000 in
set_option maxRecDepth 100000 in
theorem c_X11_thrown (l : Launch) (D : va_G) (M : Nat → Nat) (Q : Nat → ClassId) (σ : St) (th fl dv : Int32) : MI l yX11_thrown cX11_thrown 1 .int ({ frames := 0, cells := 0, slots := 0, locals := 0 }) D cls (tyl Q) [.ref (M 0)] (mw M Q) (mw M Q (σ, th, fl, dv)) (fun r u => r = th ∧ u = (σ, th, fl, dv)) 0 0 := by
  refine MI_of (by decide) (Nat.le_of_ble_eq_true rfl) ?_
  intro p e s m args below meth c A ls cx hw hl
  have hl : lv_has ls 1 [(0, .ref (M 0))] := hl
  refine lv_aload_n cx.x cx.b dX11_thrown_0 rfl (lv_at hl 0 rfl) ?_
  refine gt_f (v := .int th) cx hw 0 (mw_h σ th fl dv) rfl inX11 0 (by decide) tw_757 ⟨rfl, rfl, Or.inl rfl⟩ rfl dX11_thrown_1 ?_
  exact ret_i (σ, th, fl, dv) cx hw ⟨rfl, rfl⟩ dX11_thrown_4 (Nat.le_of_ble_eq_true rfl) (Nat.le_of_ble_eq_true rfl)
set_option maxHeartbeats 4000000 in
set_option maxRecDepth 100000 in
theorem c_X11_book (l : Launch) (D : va_G) (M : Nat → Nat) (Q : Nat → ClassId) (σ : St) (th fl dv : Int32) (hN : s_N σ < 2 ^ 30) (ix : Int32) : MI l yX11_book cX11_book 2 .int ({ frames := 0, cells := 0, slots := 0, locals := 0 }) D cls (tyl Q) [.ref (M 0), .int ix] (mw M Q) (mw M Q (σ, th, fl, dv)) (okM (aBook σ ix)) 0 0 := by
  refine MI_of (by decide) (Nat.le_of_ble_eq_true rfl) ?_
  intro p e s m args below meth c A ls cx hw hl
  have hl : lv_has ls 2 [(0, .ref (M 0)), (1, .int ix)] := hl
  by_cases hv : 0 ≤ ix ∧ ix < kp (s_N σ)
  · have hq := (bk_i hN).mp hv
    obtain ⟨t, ht, rfl⟩ := kp_i hv
    refine lv_aload_n cx.x cx.b dX11_book_0 rfl (lv_at hl 0 rfl) ?_
    refine lv_iconst (v := 0) cx.x cx.b dX11_book_1 (by decide) ?_
    refine pt_f cx hw 0 (mw_h σ th fl dv) rfl inX11 tyX11 tyX11_ok nmX11 0 (by decide) tw_757 ⟨rfl, rfl, Or.inl rfl⟩ rfl rfl rfl rfl (Nat.le_of_ble_eq_true rfl) dX11_book_2 (w1 := mw M Q (σ, 0, fl, dv)) mw_p0 (fun H locs hw => ?_)
    refine lv_iload_n cx.x cx.b dX11_book_5 rfl (lv_at hl 1 rfl) ?_
    refine lv_if_lt (tgt := 42) cx.x cx.b dX11_book_6 (by decide) (fun hb6 => absurd hb6 hq.1) (fun hb6 => ?_)
    refine lv_iload_n cx.x cx.b dX11_book_9 rfl (lv_at hl 1 rfl) ?_
    refine lv_aload_n cx.x cx.b dX11_book_10 rfl (lv_at hl 0 rfl) ?_
    refine gt_f (v := .int (nI (s_N σ))) cx hw 0 (mw_h σ 0 fl dv) rfl inX11 11 (by decide) tw_768 ⟨rfl, rfl, Or.inl rfl⟩ rfl dX11_book_11 ?_
    refine lv_icmp_ge (tgt := 42) cx.x cx.b dX11_book_14 (by decide) (fun hb14 => absurd hb14 hq.2.1) (fun hb14 => ?_)
    refine lv_iload_n cx.x cx.b dX11_book_17 rfl (lv_at hl 1 rfl) ?_
    refine lv_bipush (v := 100) cx.x cx.b dX11_book_18 (by decide) ?_
    refine lv_icmp_ge (tgt := 42) cx.x cx.b dX11_book_20 (by decide) (fun hb20 => absurd hb20 hq.2.2) (fun hb20 => ?_)
    refine lv_aload_n cx.x cx.b dX11_book_23 rfl (lv_at hl 0 rfl) ?_
    refine gt_f (v := .ref (M 9)) cx hw 0 (mw_h σ 0 fl dv) rfl inX11 10 (by decide) tw_767 ⟨rfl, rfl, Or.inl rfl⟩ rfl dX11_book_24 ?_
    refine lv_aload_n cx.x cx.b dX11_book_27 rfl (lv_at hl 0 rfl) ?_
    refine gt_f (v := .int (nI (s_N σ))) cx hw 0 (mw_h σ 0 fl dv) rfl inX11 11 (by decide) tw_768 ⟨rfl, rfl, Or.inl rfl⟩ rfl dX11_book_28 ?_
    refine lv_iconst (v := 1) cx.x cx.b dX11_book_31 (by decide) ?_
    refine lv_isub cx.x cx.b dX11_book_32 ?_
    refine lv_iload_n cx.x cx.b dX11_book_33 rfl (lv_at hl 1 rfl) ?_
    refine lv_isub cx.x cx.b dX11_book_34 ?_
    refine lv_bipush (v := 100) cx.x cx.b dX11_book_35 (by decide) ?_
    refine lv_irem cx.x cx.b dX11_book_37 (by decide) ?_
    refine ald_i (f := (s_g σ)) cx hw 9 0 rfl rfl ((s_N σ - 1 - t) % 100) (bk_j hN ht) (Nat.mod_lt _ (by decide)) (by decide) dX11_book_38 ?_
    refine lv_goto (tgt := 43) cx.x cx.b dX11_book_39 (by decide) ?_
    exact ret_i (σ, 0, fl, dv) cx hw (okM_0 (by unfold aBook; rw [if_pos hv, nI_clamp (by omega)])) dX11_book_43 (Nat.le_of_ble_eq_true rfl) (Nat.le_of_ble_eq_true rfl)
  · refine lv_aload_n cx.x cx.b dX11_book_0 rfl (lv_at hl 0 rfl) ?_
    refine lv_iconst (v := 0) cx.x cx.b dX11_book_1 (by decide) ?_
    refine pt_f cx hw 0 (mw_h σ th fl dv) rfl inX11 tyX11 tyX11_ok nmX11 0 (by decide) tw_757 ⟨rfl, rfl, Or.inl rfl⟩ rfl rfl rfl rfl (Nat.le_of_ble_eq_true rfl) dX11_book_2 (w1 := mw M Q (σ, 0, fl, dv)) mw_p0 (fun H locs hw => ?_)
    refine lv_iload_n cx.x cx.b dX11_book_5 rfl (lv_at hl 1 rfl) ?_
    refine lv_if_lt (tgt := 42) cx.x cx.b dX11_book_6 (by decide) (fun hb6 => ?_) (fun hb6 => ?_)
    · refine lv_iconst (v := (-1)) cx.x cx.b dX11_book_42 (by decide) ?_
      exact ret_i (σ, 0, fl, dv) cx hw (okM_0 (by unfold aBook; rw [if_neg hv])) dX11_book_43 (Nat.le_of_ble_eq_true rfl) (Nat.le_of_ble_eq_true rfl)
    · refine lv_iload_n cx.x cx.b dX11_book_9 rfl (lv_at hl 1 rfl) ?_
      refine lv_aload_n cx.x cx.b dX11_book_10 rfl (lv_at hl 0 rfl) ?_
      refine gt_f (v := .int (nI (s_N σ))) cx hw 0 (mw_h σ 0 fl dv) rfl inX11 11 (by decide) tw_768 ⟨rfl, rfl, Or.inl rfl⟩ rfl dX11_book_11 ?_
      refine lv_icmp_ge (tgt := 42) cx.x cx.b dX11_book_14 (by decide) (fun hb14 => ?_) (fun hb14 => ?_)
      · refine lv_iconst (v := (-1)) cx.x cx.b dX11_book_42 (by decide) ?_
        exact ret_i (σ, 0, fl, dv) cx hw (okM_0 (by unfold aBook; rw [if_neg hv])) dX11_book_43 (Nat.le_of_ble_eq_true rfl) (Nat.le_of_ble_eq_true rfl)
      · refine lv_iload_n cx.x cx.b dX11_book_17 rfl (lv_at hl 1 rfl) ?_
        refine lv_bipush (v := 100) cx.x cx.b dX11_book_18 (by decide) ?_
        refine lv_icmp_ge (tgt := 42) cx.x cx.b dX11_book_20 (by decide) (fun hb20 => ?_) (fun hb20 => absurd ((bk_i hN).mpr ⟨hb6, hb14, hb20⟩) hv)
        refine lv_iconst (v := (-1)) cx.x cx.b dX11_book_42 (by decide) ?_
        exact ret_i (σ, 0, fl, dv) cx hw (okM_0 (by unfold aBook; rw [if_neg hv])) dX11_book_43 (Nat.le_of_ble_eq_true rfl) (Nat.le_of_ble_eq_true rfl)
set_option maxHeartbeats 4000000 in
set_option maxRecDepth 100000 in
theorem c_X11_shelf (l : Launch) (D : va_G) (M : Nat → Nat) (Q : Nat → ClassId) (σ : St) (th fl dv : Int32) (ks nn : Int32) : MI l yX11_shelf cX11_shelf 4 .int ({ frames := 2, cells := 0, slots := 0, locals := 42 }) D cls (tyl Q) [.ref (M 0), .int ks, .int nn] (mw M Q) (mw M Q (σ, th, fl, dv)) (okM (aShelf σ ks nn)) 0 0 := by
  refine MI_of (by decide) (Nat.le_of_ble_eq_true rfl) ?_
  intro p e s m args below meth c A ls cx hw hl
  have hl : lv_has ls 4 [(0, .ref (M 0)), (1, .int ks), (2, .int nn)] := hl
  by_cases hv : okS ks
  · obtain ⟨k, hk, rfl⟩ := okS_k hv
    refine lv_aload_n cx.x cx.b dX11_shelf_0 rfl (lv_at hl 0 rfl) ?_
    refine lv_iconst (v := 0) cx.x cx.b dX11_shelf_1 (by decide) ?_
    refine pt_f cx hw 0 (mw_h σ th fl dv) rfl inX11 tyX11 tyX11_ok nmX11 0 (by decide) tw_757 ⟨rfl, rfl, Or.inl rfl⟩ rfl rfl rfl rfl (Nat.le_of_ble_eq_true rfl) dX11_shelf_2 (w1 := mw M Q (σ, 0, fl, dv)) mw_p0 (fun H locs hw => ?_)
    refine lv_iload_n cx.x cx.b dX11_shelf_5 rfl (lv_at hl 1 rfl) ?_
    refine cgo_i cx hw (rS_i (n := 1) (As := [.int (nI k)]) (rest := []) cx hw (c_X11_isShelf l D M Q σ 0 fl dv (nI k)) (gd_S tw_824 tw_825 tw_4 tw_826) ⟨by decide +kernel, rfl, hl.1, (Nat.le_of_ble_eq_true rfl), ⟨(Nat.le_of_ble_eq_true rfl), (Nat.le_of_ble_eq_true rfl)⟩, ⟨(Nat.le_of_ble_eq_true rfl), (Nat.le_of_ble_eq_true rfl)⟩, rfl, rfl⟩ rfl dX11_shelf_6) (fun r u H locs hp hw => ?_)
    obtain ⟨h8, h9⟩ := hp
    have h8 := h8.symm
    have h9 := h9.symm
    subst h8
    subst h9
    refine lv_if_eq (tgt := 18) cx.x cx.b dX11_shelf_9 (by decide) (fun hb9 => absurd hv (isS.mp hb9)) (fun hb9 => ?_)
    refine lv_iload_n cx.x cx.b dX11_shelf_12 rfl (lv_at hl 2 rfl) ?_
    refine lv_bipush (v := 8) cx.x cx.b dX11_shelf_13 (by decide) ?_
    refine lv_icmp_le (tgt := 21) cx.x cx.b dX11_shelf_15 (by decide) (fun hb15 => ?_) (fun hb15 => ?_)
    · refine lv_iload_n cx.x cx.b dX11_shelf_21 rfl (lv_at hl 2 rfl) ?_
      refine lv_if_ge (tgt := 32) cx.x cx.b dX11_shelf_22 (by decide) (fun hb22 => ?_) (fun hb22 => ?_)
      · refine lv_aload_n cx.x cx.b dX11_shelf_32 rfl (lv_at hl 0 rfl) ?_
        refine gt_f (v := .ref (M 7)) cx hw 0 (mw_h σ 0 fl dv) rfl inX11 8 (by decide) tw_765 ⟨rfl, rfl, Or.inl rfl⟩ rfl dX11_shelf_33 ?_
        refine lv_iload_n cx.x cx.b dX11_shelf_36 rfl (lv_at hl 1 rfl) ?_
        refine lv_iload_n cx.x cx.b dX11_shelf_37 rfl (lv_at hl 2 rfl) ?_
        refine ast_i (f := (s_z σ)) cx hw 7 0 rfl rfl k rfl hk (by decide) dX11_shelf_38 (w1 := mw M Q (sZ k nn σ, 0, fl, dv)) mw_a7 (fun H locs hw => ?_)
        refine lv_iconst (v := 0) cx.x cx.b dX11_shelf_39 (by decide) ?_
        refine lv_istore_n (lv' := [(3, .int 0), (0, .ref (M 0)), (1, .int (nI k)), (2, .int nn)]) cx.x cx.b dX11_shelf_40 rfl hl (by decide) rfl (fun ls hl => ?_)
        refine loopN 8 (fun _ => 0) (fun _ => 0) (fun j H locs ls => Wd D cls A s H locs (mw M Q (clr k (sZ k nn σ) j, 0, fl, dv)) ∧ lv_has ls 4 [(3, .int (nI j)), (0, .ref (M 0)), (1, .int (nI k)), (2, .int nn)]) ⟨hw, hl⟩ (fun H locs ls ⟨hw, hl⟩ => ?_) (fun j hj H locs ls ⟨hw, hl⟩ kk => ?_)
        · refine lv_iload_n cx.x cx.b dX11_shelf_41 rfl (lv_at hl 0 rfl) ?_
          refine lv_bipush (v := 8) cx.x cx.b dX11_shelf_42 (by decide) ?_
          refine lv_icmp_ge (tgt := 65) cx.x cx.b dX11_shelf_44 (by decide) (fun hb44 => ?_) (fun hb44 => absurd (by decide) hb44)
          refine lv_iload_n cx.x cx.b dX11_shelf_65 rfl (lv_at hl 3 rfl) ?_
          exact ret_i (clr k (sZ k nn σ) 8, 0, fl, dv) cx hw (okM_0 (by unfold aShelf; rw [if_pos ⟨hv, hb15⟩, if_neg (Int32.not_lt.mpr hb22), cl4 hk])) dX11_shelf_66 (Nat.le_of_ble_eq_true rfl) (Nat.le_of_ble_eq_true rfl)
        · refine lv_iload_n cx.x cx.b dX11_shelf_41 rfl (lv_at hl 0 rfl) ?_
          refine lv_bipush (v := 8) cx.x cx.b dX11_shelf_42 (by decide) ?_
          refine lv_icmp_ge (tgt := 65) cx.x cx.b dX11_shelf_44 (by decide) (fun hb44 => absurd hb44 (nI_ge hj (by decide))) (fun hb44 => ?_)
          refine lv_aload_n cx.x cx.b dX11_shelf_47 rfl (lv_at hl 1 rfl) ?_
          refine gt_f (v := .ref (M 8)) cx hw 0 (mw_h (clr k (sZ k nn σ) j) 0 fl dv) rfl inX11 9 (by decide) tw_766 ⟨rfl, rfl, Or.inl rfl⟩ rfl dX11_shelf_48 ?_
          refine lv_bipush (v := 8) cx.x cx.b dX11_shelf_51 (by decide) ?_
          refine lv_iload_n cx.x cx.b dX11_shelf_53 rfl (lv_at hl 2 rfl) ?_
          refine lv_imul cx.x cx.b dX11_shelf_54 ?_
          refine lv_iload_n cx.x cx.b dX11_shelf_55 rfl (lv_at hl 0 rfl) ?_
          refine lv_iadd cx.x cx.b dX11_shelf_56 ?_
          refine lv_iconst (v := (-1)) cx.x cx.b dX11_shelf_57 (by decide) ?_
          refine ast_i (f := (fun x9 => s_r (clr k (sZ k nn σ) j) (x9 / 8) (x9 % 8))) cx hw 8 0 rfl rfl (8 * k + j) i8 (by omega) (by decide) dX11_shelf_58 (w1 := mw M Q (sR k j (-1) (clr k (sZ k nn σ) j), 0, fl, dv)) (mw_a8 hj) (fun H locs hw => ?_)
          refine lv_iinc (v := ((nI j) + 1)) (lv' := [(3, .int ((nI j) + 1)), (0, .ref (M 0)), (1, .int (nI k)), (2, .int nn)]) cx.x cx.b dX11_shelf_59 hl (k := 0) rfl rfl (by decide) rfl (fun ls hl => ?_)
          refine lv_goto (tgt := 41) cx.x cx.b dX11_shelf_62 (by decide) ?_
          rw [nI_1] at hl
          exact kk H locs ls ⟨hw, hl⟩
      · refine lv_aload_n cx.x cx.b dX11_shelf_25 rfl (lv_at hl 0 rfl) ?_
        refine lv_iconst (v := 1) cx.x cx.b dX11_shelf_26 (by decide) ?_
        refine pt_f cx hw 0 (mw_h σ 0 fl dv) rfl inX11 tyX11 tyX11_ok nmX11 0 (by decide) tw_757 ⟨rfl, rfl, Or.inl rfl⟩ rfl rfl rfl rfl (Nat.le_of_ble_eq_true rfl) dX11_shelf_27 (w1 := mw M Q (σ, 1, fl, dv)) mw_p0 (fun H locs hw => ?_)
        refine lv_iconst (v := 0) cx.x cx.b dX11_shelf_30 (by decide) ?_
        exact ret_i (σ, 1, fl, dv) cx hw (okM_1 (by unfold aShelf; rw [if_pos ⟨hv, hb15⟩, if_pos (Int32.not_le.mp hb22)]) (by decide) rfl) dX11_shelf_31 (Nat.le_of_ble_eq_true rfl) (Nat.le_of_ble_eq_true rfl)
    · refine lv_bipush (v := (-102)) cx.x cx.b dX11_shelf_18 (by decide) ?_
      exact ret_i (σ, 0, fl, dv) cx hw (okM_0 (by unfold aShelf; rw [if_neg (fun h => hb15 h.2)])) dX11_shelf_20 (Nat.le_of_ble_eq_true rfl) (Nat.le_of_ble_eq_true rfl)
  · refine lv_aload_n cx.x cx.b dX11_shelf_0 rfl (lv_at hl 0 rfl) ?_
    refine lv_iconst (v := 0) cx.x cx.b dX11_shelf_1 (by decide) ?_
    refine pt_f cx hw 0 (mw_h σ th fl dv) rfl inX11 tyX11 tyX11_ok nmX11 0 (by decide) tw_757 ⟨rfl, rfl, Or.inl rfl⟩ rfl rfl rfl rfl (Nat.le_of_ble_eq_true rfl) dX11_shelf_2 (w1 := mw M Q (σ, 0, fl, dv)) mw_p0 (fun H locs hw => ?_)
    refine lv_iload_n cx.x cx.b dX11_shelf_5 rfl (lv_at hl 1 rfl) ?_
    refine cgo_i cx hw (rS_i (n := 1) (As := [.int ks]) (rest := []) cx hw (c_X11_isShelf l D M Q σ 0 fl dv ks) (gd_S tw_824 tw_825 tw_4 tw_826) ⟨by decide +kernel, rfl, hl.1, (Nat.le_of_ble_eq_true rfl), ⟨(Nat.le_of_ble_eq_true rfl), (Nat.le_of_ble_eq_true rfl)⟩, ⟨(Nat.le_of_ble_eq_true rfl), (Nat.le_of_ble_eq_true rfl)⟩, rfl, rfl⟩ rfl dX11_shelf_6) (fun r u H locs hp hw => ?_)
    obtain ⟨h8, h9⟩ := hp
    have h8 := h8.symm
    have h9 := h9.symm
    subst h8
    subst h9
    refine lv_if_eq (tgt := 18) cx.x cx.b dX11_shelf_9 (by decide) (fun hb9 => ?_) (fun hb9 => absurd (isS.mpr hv) hb9)
    refine lv_bipush (v := (-102)) cx.x cx.b dX11_shelf_18 (by decide) ?_
    exact ret_i (σ, 0, fl, dv) cx hw (okM_0 (by unfold aShelf; rw [if_neg (fun h => hv h.1)])) dX11_shelf_20 (Nat.le_of_ble_eq_true rfl) (Nat.le_of_ble_eq_true rfl)
