set_option maxHeartbeats 4000000 in
set_option maxRecDepth 100000 in
theorem c_X11_change (l : Launch) (D : va_G) (M : Nat → Nat) (Q : Nat → ClassId) (σ : St) (th fl dv : Int32) {b : Nat} (hI : Inv (b + 100) σ) (hvc : ∀ i, i < s_n σ → -2000000000 ≤ vCost (s_k σ i) i σ ∧ vCost (s_k σ i) i σ ≤ 2000000000) (lo co : Int32) : MI l yX11_change cX11_change 4 .int ({ frames := 4, cells := 0, slots := 0, locals := 86 }) D cls (tyl Q) [.ref (M 0), .int lo, .int co] (mw M Q) (mw M Q (σ, th, fl, dv)) (okM (aChange σ lo co)) 0 0 := by
  refine MI_of (by decide) (Nat.le_of_ble_eq_true rfl) ?_
  intro p e s m args below meth c A ls cx hw hl
  have hl : lv_has ls 4 [(0, .ref (M 0)), (1, .int lo), (2, .int co)] := hl
  have hN9 := hI.n
  have hb9 : s_N σ + 100 < 2 ^ 30 := by have := hI.2.2.2.2.1; omega
  by_cases hv : okL σ lo
  · obtain ⟨i, hn, rfl⟩ := okL_i hN9 hv
    have hd := hI.k hn
    have hi : i < 20 := by omega
    by_cases hc : 0 ≤ co ∧ co ≤ 100000
    · by_cases hm : sold (s_k σ i)
      · by_cases g1 : fWorth (s_k σ i) i σ
        · refine lv_aload_n cx.x cx.b dX11_change_0 rfl (lv_at hl 0 rfl) ?_
          refine lv_iconst (v := 0) cx.x cx.b dX11_change_1 (by decide) ?_
          refine pt_f cx hw 0 (mw_h σ th fl dv) rfl inX11 tyX11 tyX11_ok nmX11 0 (by decide) tw_757 ⟨rfl, rfl, Or.inl rfl⟩ rfl rfl rfl rfl (Nat.le_of_ble_eq_true rfl) dX11_change_2 (w1 := mw M Q (σ, 0, fl, dv)) mw_p0 (fun H locs hw => ?_)
          refine lv_aload_n cx.x cx.b dX11_change_5 rfl (lv_at hl 0 rfl) ?_
          refine lv_iload_n cx.x cx.b dX11_change_6 rfl (lv_at hl 1 rfl) ?_
          refine cgo_i cx hw (rV_i (q0 := 0) (n := 1) (As := [.int (nI i)]) (rest := []) cx hw (c_X11_isLoaf l D M Q σ 0 fl dv (nI i)) (gd_V tw_835 tw_837 ts_7 tw_4 tw_838) rfl ⟨by decide +kernel, rfl, hl.1, (Nat.le_of_ble_eq_true rfl), ⟨(Nat.le_of_ble_eq_true rfl), (Nat.le_of_ble_eq_true rfl)⟩, ⟨(Nat.le_of_ble_eq_true rfl), (Nat.le_of_ble_eq_true rfl)⟩, rfl, rfl⟩ rfl (mw_h σ 0 fl dv) rfl dX11_change_7) (fun r u H locs hp hw => ?_)
          obtain ⟨h8, h9⟩ := hp
          have h8 := h8.symm
          have h9 := h9.symm
          subst h8
          subst h9
          refine lv_if_ne (tgt := 16) cx.x cx.b dX11_change_10 (by decide) (fun hb10 => ?_) (fun hb10 => absurd hv ((isL hN9).mp hb10))
          refine lv_iload_n cx.x cx.b dX11_change_16 rfl (lv_at hl 2 rfl) ?_
          refine lv_iconst (v := 0) cx.x cx.b dX11_change_17 (by decide) ?_
          refine lv_ldc (v := 100000) cx.x cx.b cx.ow (cx.ts _ tw_923) dX11_change_18 ?_
          refine cgo_i cx hw (rS_i (n := 3) (As := [.int co, .int 0, .int 100000]) (rest := []) cx hw (c_X11_within l D M Q σ 0 fl dv co 0 100000) (gd_S tw_817 tw_818 tw_4 tw_819) ⟨by decide +kernel, rfl, hl.1, (Nat.le_of_ble_eq_true rfl), ⟨(Nat.le_of_ble_eq_true rfl), (Nat.le_of_ble_eq_true rfl)⟩, ⟨(Nat.le_of_ble_eq_true rfl), (Nat.le_of_ble_eq_true rfl)⟩, rfl, rfl⟩ rfl dX11_change_20) (fun r u H locs hp hw => ?_)
          obtain ⟨h8, h9⟩ := hp
          have h8 := h8.symm
          have h9 := h9.symm
          subst h8
          subst h9
          refine lv_if_ne (tgt := 29) cx.x cx.b dX11_change_23 (by decide) (fun hb23 => ?_) (fun hb23 => absurd hb23 (by rw [wth_eq0]; exact fun h => h hc))
          refine lv_aload_n cx.x cx.b dX11_change_29 rfl (lv_at hl 0 rfl) ?_
          refine lv_iload_n cx.x cx.b dX11_change_30 rfl (lv_at hl 1 rfl) ?_
          refine cgo_i cx hw (rV_i (q0 := 0) (n := 1) (As := [.int (nI i)]) (rest := []) cx hw (c_X11_isSold l D M Q σ 0 fl dv i hi) (gd_V tw_911 tw_913 ts_21 tw_4 tw_914) rfl ⟨by decide +kernel, rfl, hl.1, (Nat.le_of_ble_eq_true rfl), ⟨(Nat.le_of_ble_eq_true rfl), (Nat.le_of_ble_eq_true rfl)⟩, ⟨(Nat.le_of_ble_eq_true rfl), (Nat.le_of_ble_eq_true rfl)⟩, rfl, rfl⟩ rfl (mw_h σ 0 fl dv) rfl dX11_change_31) (fun r u H locs hp hw => ?_)
          obtain ⟨h8, h9⟩ := hp
          have h8 := h8.symm
          have h9 := h9.symm
          subst h8
          subst h9
          refine lv_if_ne (tgt := 40) cx.x cx.b dX11_change_34 (by decide) (fun hb34 => ?_) (fun hb34 => absurd hm ((sold_w hd).mp hb34))
          refine lv_aload_n cx.x cx.b dX11_change_40 rfl (lv_at hl 0 rfl) ?_
          refine lv_iload_n cx.x cx.b dX11_change_41 rfl (lv_at hl 1 rfl) ?_
          refine cgo_i cx hw (rV_i (q0 := 0) (n := 1) (As := [.int (nI i)]) (rest := []) cx hw (c_X11_costOf l D M Q σ 0 fl dv i hi (by show s_N σ + 3 < 2 ^ 30; omega) hd) (gd_V tw_915 tw_917 ts_22 tw_4 tw_918) rfl ⟨by decide +kernel, rfl, hl.1, (Nat.le_of_ble_eq_true rfl), ⟨(Nat.le_of_ble_eq_true rfl), (Nat.le_of_ble_eq_true rfl)⟩, ⟨(Nat.le_of_ble_eq_true rfl), (Nat.le_of_ble_eq_true rfl)⟩, rfl, rfl⟩ rfl (mw_h σ 0 fl dv) rfl dX11_change_42) (fun r u H locs hp hw => ?_)
          obtain ⟨h8, h9⟩ := hp
          have h8 := h8.symm
          have h9 := h9.symm
          subst h8
          subst h9
          refine lv_istore_n (lv' := [(3, .int (vCost (s_k σ i) i σ)), (0, .ref (M 0)), (1, .int (nI i)), (2, .int co)]) cx.x cx.b dX11_change_45 rfl hl (by decide) rfl (fun ls hl => ?_)
          refine lv_aload_n cx.x cx.b dX11_change_46 rfl (lv_at hl 1 rfl) ?_
          refine lv_aload_n cx.x cx.b dX11_change_47 rfl (lv_at hl 1 rfl) ?_
          refine gt_f (v := .int (b01 (fWorth (s_k σ i) i σ))) cx hw 0 (mw_h (rWorth (s_k σ i) i σ) 0 fl (b01 (fWorth (s_k σ i) i σ))) rfl inX11 16 (by decide) tw_773 ⟨rfl, rfl, Or.inl rfl⟩ rfl dX11_change_48 ?_
          refine lv_if_eq (tgt := 58) cx.x cx.b dX11_change_51 (by decide) (fun hb51 => absurd g1 (b01_eq0.mp hb51)) (fun hb51 => ?_)
          refine lv_iconst (v := 1) cx.x cx.b dX11_change_54 (by decide) ?_
          refine lv_goto (tgt := 59) cx.x cx.b dX11_change_55 (by decide) ?_
          refine pt_f cx hw 0 (mw_h (rWorth (s_k σ i) i σ) 0 fl (b01 (fWorth (s_k σ i) i σ))) rfl inX11 tyX11 tyX11_ok nmX11 0 (by decide) tw_757 ⟨rfl, rfl, Or.inl rfl⟩ rfl rfl rfl rfl (Nat.le_of_ble_eq_true rfl) dX11_change_59 (w1 := mw M Q (rWorth (s_k σ i) i σ, 1, fl, b01 (fWorth (s_k σ i) i σ))) mw_p0 (fun H locs hw => ?_)
          refine lv_aload_n cx.x cx.b dX11_change_62 rfl (lv_at hl 1 rfl) ?_
          refine gt_f (v := .int (b01 (fWorth (s_k σ i) i σ))) cx hw 0 (mw_h (rWorth (s_k σ i) i σ) 1 fl (b01 (fWorth (s_k σ i) i σ))) rfl inX11 16 (by decide) tw_773 ⟨rfl, rfl, Or.inl rfl⟩ rfl dX11_change_63 ?_
          refine lv_if_eq (tgt := 73) cx.x cx.b dX11_change_66 (by decide) (fun hb66 => absurd g1 (b01_eq0.mp hb66)) (fun hb66 => ?_)
          refine lv_iconst (v := 0) cx.x cx.b dX11_change_69 (by decide) ?_
          refine lv_goto (tgt := 85) cx.x cx.b dX11_change_70 (by decide) ?_
          exact ret_i (rWorth (s_k σ i) i σ, 1, fl, b01 (fWorth (s_k σ i) i σ)) cx hw (okM_1 (by unfold aChange; rw [if_pos hv, if_pos hc, cl20 hN9 hn, if_pos hm, if_pos g1]) (by decide) rfl) dX11_change_85 (Nat.le_of_ble_eq_true rfl) (Nat.le_of_ble_eq_true rfl)
        · refine lv_aload_n cx.x cx.b dX11_change_0 rfl (lv_at hl 0 rfl) ?_
          refine lv_iconst (v := 0) cx.x cx.b dX11_change_1 (by decide) ?_
          refine pt_f cx hw 0 (mw_h σ th fl dv) rfl inX11 tyX11 tyX11_ok nmX11 0 (by decide) tw_757 ⟨rfl, rfl, Or.inl rfl⟩ rfl rfl rfl rfl (Nat.le_of_ble_eq_true rfl) dX11_change_2 (w1 := mw M Q (σ, 0, fl, dv)) mw_p0 (fun H locs hw => ?_)
          refine lv_aload_n cx.x cx.b dX11_change_5 rfl (lv_at hl 0 rfl) ?_
          refine lv_iload_n cx.x cx.b dX11_change_6 rfl (lv_at hl 1 rfl) ?_
          refine cgo_i cx hw (rV_i (q0 := 0) (n := 1) (As := [.int (nI i)]) (rest := []) cx hw (c_X11_isLoaf l D M Q σ 0 fl dv (nI i)) (gd_V tw_835 tw_837 ts_7 tw_4 tw_838) rfl ⟨by decide +kernel, rfl, hl.1, (Nat.le_of_ble_eq_true rfl), ⟨(Nat.le_of_ble_eq_true rfl), (Nat.le_of_ble_eq_true rfl)⟩, ⟨(Nat.le_of_ble_eq_true rfl), (Nat.le_of_ble_eq_true rfl)⟩, rfl, rfl⟩ rfl (mw_h σ 0 fl dv) rfl dX11_change_7) (fun r u H locs hp hw => ?_)
          obtain ⟨h8, h9⟩ := hp
          have h8 := h8.symm
          have h9 := h9.symm
          subst h8
          subst h9
          refine lv_if_ne (tgt := 16) cx.x cx.b dX11_change_10 (by decide) (fun hb10 => ?_) (fun hb10 => absurd hv ((isL hN9).mp hb10))
          refine lv_iload_n cx.x cx.b dX11_change_16 rfl (lv_at hl 2 rfl) ?_
          refine lv_iconst (v := 0) cx.x cx.b dX11_change_17 (by decide) ?_
          refine lv_ldc (v := 100000) cx.x cx.b cx.ow (cx.ts _ tw_923) dX11_change_18 ?_
          refine cgo_i cx hw (rS_i (n := 3) (As := [.int co, .int 0, .int 100000]) (rest := []) cx hw (c_X11_within l D M Q σ 0 fl dv co 0 100000) (gd_S tw_817 tw_818 tw_4 tw_819) ⟨by decide +kernel, rfl, hl.1, (Nat.le_of_ble_eq_true rfl), ⟨(Nat.le_of_ble_eq_true rfl), (Nat.le_of_ble_eq_true rfl)⟩, ⟨(Nat.le_of_ble_eq_true rfl), (Nat.le_of_ble_eq_true rfl)⟩, rfl, rfl⟩ rfl dX11_change_20) (fun r u H locs hp hw => ?_)
          obtain ⟨h8, h9⟩ := hp
          have h8 := h8.symm
          have h9 := h9.symm
          subst h8
          subst h9
          refine lv_if_ne (tgt := 29) cx.x cx.b dX11_change_23 (by decide) (fun hb23 => ?_) (fun hb23 => absurd hb23 (by rw [wth_eq0]; exact fun h => h hc))
          refine lv_aload_n cx.x cx.b dX11_change_29 rfl (lv_at hl 0 rfl) ?_
          refine lv_iload_n cx.x cx.b dX11_change_30 rfl (lv_at hl 1 rfl) ?_
          refine cgo_i cx hw (rV_i (q0 := 0) (n := 1) (As := [.int (nI i)]) (rest := []) cx hw (c_X11_isSold l D M Q σ 0 fl dv i hi) (gd_V tw_911 tw_913 ts_21 tw_4 tw_914) rfl ⟨by decide +kernel, rfl, hl.1, (Nat.le_of_ble_eq_true rfl), ⟨(Nat.le_of_ble_eq_true rfl), (Nat.le_of_ble_eq_true rfl)⟩, ⟨(Nat.le_of_ble_eq_true rfl), (Nat.le_of_ble_eq_true rfl)⟩, rfl, rfl⟩ rfl (mw_h σ 0 fl dv) rfl dX11_change_31) (fun r u H locs hp hw => ?_)
          obtain ⟨h8, h9⟩ := hp
          have h8 := h8.symm
          have h9 := h9.symm
          subst h8
          subst h9
          refine lv_if_ne (tgt := 40) cx.x cx.b dX11_change_34 (by decide) (fun hb34 => ?_) (fun hb34 => absurd hm ((sold_w hd).mp hb34))
          refine lv_aload_n cx.x cx.b dX11_change_40 rfl (lv_at hl 0 rfl) ?_
          refine lv_iload_n cx.x cx.b dX11_change_41 rfl (lv_at hl 1 rfl) ?_
          refine cgo_i cx hw (rV_i (q0 := 0) (n := 1) (As := [.int (nI i)]) (rest := []) cx hw (c_X11_costOf l D M Q σ 0 fl dv i hi (by show s_N σ + 3 < 2 ^ 30; omega) hd) (gd_V tw_915 tw_917 ts_22 tw_4 tw_918) rfl ⟨by decide +kernel, rfl, hl.1, (Nat.le_of_ble_eq_true rfl), ⟨(Nat.le_of_ble_eq_true rfl), (Nat.le_of_ble_eq_true rfl)⟩, ⟨(Nat.le_of_ble_eq_true rfl), (Nat.le_of_ble_eq_true rfl)⟩, rfl, rfl⟩ rfl (mw_h σ 0 fl dv) rfl dX11_change_42) (fun r u H locs hp hw => ?_)
          obtain ⟨h8, h9⟩ := hp
          have h8 := h8.symm
          have h9 := h9.symm
          subst h8
          subst h9
          refine lv_istore_n (lv' := [(3, .int (vCost (s_k σ i) i σ)), (0, .ref (M 0)), (1, .int (nI i)), (2, .int co)]) cx.x cx.b dX11_change_45 rfl hl (by decide) rfl (fun ls hl => ?_)
          refine lv_aload_n cx.x cx.b dX11_change_46 rfl (lv_at hl 1 rfl) ?_
          refine lv_aload_n cx.x cx.b dX11_change_47 rfl (lv_at hl 1 rfl) ?_
          refine gt_f (v := .int (b01 (fWorth (s_k σ i) i σ))) cx hw 0 (mw_h (rWorth (s_k σ i) i σ) 0 fl (b01 (fWorth (s_k σ i) i σ))) rfl inX11 16 (by decide) tw_773 ⟨rfl, rfl, Or.inl rfl⟩ rfl dX11_change_48 ?_
          refine lv_if_eq (tgt := 58) cx.x cx.b dX11_change_51 (by decide) (fun hb51 => ?_) (fun hb51 => absurd (b01_eq0.mpr g1) hb51)
          refine lv_iconst (v := 0) cx.x cx.b dX11_change_58 (by decide) ?_
          refine pt_f cx hw 0 (mw_h (rWorth (s_k σ i) i σ) 0 fl (b01 (fWorth (s_k σ i) i σ))) rfl inX11 tyX11 tyX11_ok nmX11 0 (by decide) tw_757 ⟨rfl, rfl, Or.inl rfl⟩ rfl rfl rfl rfl (Nat.le_of_ble_eq_true rfl) dX11_change_59 (w1 := mw M Q (rWorth (s_k σ i) i σ, 0, fl, b01 (fWorth (s_k σ i) i σ))) mw_p0 (fun H locs hw => ?_)
          refine lv_aload_n cx.x cx.b dX11_change_62 rfl (lv_at hl 1 rfl) ?_
          refine gt_f (v := .int (b01 (fWorth (s_k σ i) i σ))) cx hw 0 (mw_h (rWorth (s_k σ i) i σ) 0 fl (b01 (fWorth (s_k σ i) i σ))) rfl inX11 16 (by decide) tw_773 ⟨rfl, rfl, Or.inl rfl⟩ rfl dX11_change_63 ?_
          refine lv_if_eq (tgt := 73) cx.x cx.b dX11_change_66 (by decide) (fun hb66 => ?_) (fun hb66 => absurd (b01_eq0.mpr g1) hb66)
          refine lv_iload_n cx.x cx.b dX11_change_73 rfl (lv_at hl 3 rfl) ?_
          refine lv_iload_n cx.x cx.b dX11_change_74 rfl (lv_at hl 0 rfl) ?_
          refine lv_icmp_ge (tgt := 82) cx.x cx.b dX11_change_75 (by decide) (fun hb75 => ?_) (fun hb75 => ?_)
          · refine lv_iload_n cx.x cx.b dX11_change_82 rfl (lv_at hl 3 rfl) ?_
            refine lv_iload_n cx.x cx.b dX11_change_83 rfl (lv_at hl 0 rfl) ?_
            refine lv_isub cx.x cx.b dX11_change_84 ?_
            exact ret_i (rWorth (s_k σ i) i σ, 0, fl, b01 (fWorth (s_k σ i) i σ)) cx hw (okM_0 (by unfold aChange; rw [if_pos hv, if_pos hc, cl20 hN9 hn, if_pos hm, if_neg g1, chg, if_pos ((chg_lt hc (hvc i hn)).mp hb75)])) dX11_change_85 (Nat.le_of_ble_eq_true rfl) (Nat.le_of_ble_eq_true rfl)
          · refine lv_iconst (v := (-1)) cx.x cx.b dX11_change_78 (by decide) ?_
            refine lv_goto (tgt := 85) cx.x cx.b dX11_change_79 (by decide) ?_
            exact ret_i (rWorth (s_k σ i) i σ, 0, fl, b01 (fWorth (s_k σ i) i σ)) cx hw (okM_0 (by unfold aChange; rw [if_pos hv, if_pos hc, cl20 hN9 hn, if_pos hm, if_neg g1, chg, if_neg (fun h => hb75 ((chg_lt hc (hvc i hn)).mpr h))])) dX11_change_85 (Nat.le_of_ble_eq_true rfl) (Nat.le_of_ble_eq_true rfl)
      · refine lv_aload_n cx.x cx.b dX11_change_0 rfl (lv_at hl 0 rfl) ?_
        refine lv_iconst (v := 0) cx.x cx.b dX11_change_1 (by decide) ?_
        refine pt_f cx hw 0 (mw_h σ th fl dv) rfl inX11 tyX11 tyX11_ok nmX11 0 (by decide) tw_757 ⟨rfl, rfl, Or.inl rfl⟩ rfl rfl rfl rfl (Nat.le_of_ble_eq_true rfl) dX11_change_2 (w1 := mw M Q (σ, 0, fl, dv)) mw_p0 (fun H locs hw => ?_)
        refine lv_aload_n cx.x cx.b dX11_change_5 rfl (lv_at hl 0 rfl) ?_
        refine lv_iload_n cx.x cx.b dX11_change_6 rfl (lv_at hl 1 rfl) ?_
        refine cgo_i cx hw (rV_i (q0 := 0) (n := 1) (As := [.int (nI i)]) (rest := []) cx hw (c_X11_isLoaf l D M Q σ 0 fl dv (nI i)) (gd_V tw_835 tw_837 ts_7 tw_4 tw_838) rfl ⟨by decide +kernel, rfl, hl.1, (Nat.le_of_ble_eq_true rfl), ⟨(Nat.le_of_ble_eq_true rfl), (Nat.le_of_ble_eq_true rfl)⟩, ⟨(Nat.le_of_ble_eq_true rfl), (Nat.le_of_ble_eq_true rfl)⟩, rfl, rfl⟩ rfl (mw_h σ 0 fl dv) rfl dX11_change_7) (fun r u H locs hp hw => ?_)
        obtain ⟨h8, h9⟩ := hp
        have h8 := h8.symm
        have h9 := h9.symm
        subst h8
        subst h9
        refine lv_if_ne (tgt := 16) cx.x cx.b dX11_change_10 (by decide) (fun hb10 => ?_) (fun hb10 => absurd hv ((isL hN9).mp hb10))
        refine lv_iload_n cx.x cx.b dX11_change_16 rfl (lv_at hl 2 rfl) ?_
        refine lv_iconst (v := 0) cx.x cx.b dX11_change_17 (by decide) ?_
        refine lv_ldc (v := 100000) cx.x cx.b cx.ow (cx.ts _ tw_923) dX11_change_18 ?_
        refine cgo_i cx hw (rS_i (n := 3) (As := [.int co, .int 0, .int 100000]) (rest := []) cx hw (c_X11_within l D M Q σ 0 fl dv co 0 100000) (gd_S tw_817 tw_818 tw_4 tw_819) ⟨by decide +kernel, rfl, hl.1, (Nat.le_of_ble_eq_true rfl), ⟨(Nat.le_of_ble_eq_true rfl), (Nat.le_of_ble_eq_true rfl)⟩, ⟨(Nat.le_of_ble_eq_true rfl), (Nat.le_of_ble_eq_true rfl)⟩, rfl, rfl⟩ rfl dX11_change_20) (fun r u H locs hp hw => ?_)
        obtain ⟨h8, h9⟩ := hp
        have h8 := h8.symm
        have h9 := h9.symm
        subst h8
        subst h9
        refine lv_if_ne (tgt := 29) cx.x cx.b dX11_change_23 (by decide) (fun hb23 => ?_) (fun hb23 => absurd hb23 (by rw [wth_eq0]; exact fun h => h hc))
        refine lv_aload_n cx.x cx.b dX11_change_29 rfl (lv_at hl 0 rfl) ?_
        refine lv_iload_n cx.x cx.b dX11_change_30 rfl (lv_at hl 1 rfl) ?_
        refine cgo_i cx hw (rV_i (q0 := 0) (n := 1) (As := [.int (nI i)]) (rest := []) cx hw (c_X11_isSold l D M Q σ 0 fl dv i hi) (gd_V tw_911 tw_913 ts_21 tw_4 tw_914) rfl ⟨by decide +kernel, rfl, hl.1, (Nat.le_of_ble_eq_true rfl), ⟨(Nat.le_of_ble_eq_true rfl), (Nat.le_of_ble_eq_true rfl)⟩, ⟨(Nat.le_of_ble_eq_true rfl), (Nat.le_of_ble_eq_true rfl)⟩, rfl, rfl⟩ rfl (mw_h σ 0 fl dv) rfl dX11_change_31) (fun r u H locs hp hw => ?_)
        obtain ⟨h8, h9⟩ := hp
        have h8 := h8.symm
        have h9 := h9.symm
        subst h8
        subst h9
        refine lv_if_ne (tgt := 40) cx.x cx.b dX11_change_34 (by decide) (fun hb34 => absurd ((sold_w hd).mpr hm) hb34) (fun hb34 => ?_)
        refine lv_bipush (v := (-103)) cx.x cx.b dX11_change_37 (by decide) ?_
        exact ret_i (σ, 0, fl, dv) cx hw (okM_0 (by unfold aChange; rw [if_pos hv, if_pos hc, cl20 hN9 hn, if_neg hm])) dX11_change_39 (Nat.le_of_ble_eq_true rfl) (Nat.le_of_ble_eq_true rfl)
    · refine lv_aload_n cx.x cx.b dX11_change_0 rfl (lv_at hl 0 rfl) ?_
      refine lv_iconst (v := 0) cx.x cx.b dX11_change_1 (by decide) ?_
      refine pt_f cx hw 0 (mw_h σ th fl dv) rfl inX11 tyX11 tyX11_ok nmX11 0 (by decide) tw_757 ⟨rfl, rfl, Or.inl rfl⟩ rfl rfl rfl rfl (Nat.le_of_ble_eq_true rfl) dX11_change_2 (w1 := mw M Q (σ, 0, fl, dv)) mw_p0 (fun H locs hw => ?_)
      refine lv_aload_n cx.x cx.b dX11_change_5 rfl (lv_at hl 0 rfl) ?_
      refine lv_iload_n cx.x cx.b dX11_change_6 rfl (lv_at hl 1 rfl) ?_
      refine cgo_i cx hw (rV_i (q0 := 0) (n := 1) (As := [.int (nI i)]) (rest := []) cx hw (c_X11_isLoaf l D M Q σ 0 fl dv (nI i)) (gd_V tw_835 tw_837 ts_7 tw_4 tw_838) rfl ⟨by decide +kernel, rfl, hl.1, (Nat.le_of_ble_eq_true rfl), ⟨(Nat.le_of_ble_eq_true rfl), (Nat.le_of_ble_eq_true rfl)⟩, ⟨(Nat.le_of_ble_eq_true rfl), (Nat.le_of_ble_eq_true rfl)⟩, rfl, rfl⟩ rfl (mw_h σ 0 fl dv) rfl dX11_change_7) (fun r u H locs hp hw => ?_)
      obtain ⟨h8, h9⟩ := hp
      have h8 := h8.symm
      have h9 := h9.symm
      subst h8
      subst h9
      refine lv_if_ne (tgt := 16) cx.x cx.b dX11_change_10 (by decide) (fun hb10 => ?_) (fun hb10 => absurd hv ((isL hN9).mp hb10))
      refine lv_iload_n cx.x cx.b dX11_change_16 rfl (lv_at hl 2 rfl) ?_
      refine lv_iconst (v := 0) cx.x cx.b dX11_change_17 (by decide) ?_
      refine lv_ldc (v := 100000) cx.x cx.b cx.ow (cx.ts _ tw_923) dX11_change_18 ?_
      refine cgo_i cx hw (rS_i (n := 3) (As := [.int co, .int 0, .int 100000]) (rest := []) cx hw (c_X11_within l D M Q σ 0 fl dv co 0 100000) (gd_S tw_817 tw_818 tw_4 tw_819) ⟨by decide +kernel, rfl, hl.1, (Nat.le_of_ble_eq_true rfl), ⟨(Nat.le_of_ble_eq_true rfl), (Nat.le_of_ble_eq_true rfl)⟩, ⟨(Nat.le_of_ble_eq_true rfl), (Nat.le_of_ble_eq_true rfl)⟩, rfl, rfl⟩ rfl dX11_change_20) (fun r u H locs hp hw => ?_)
      obtain ⟨h8, h9⟩ := hp
      have h8 := h8.symm
      have h9 := h9.symm
      subst h8
      subst h9
      refine lv_if_ne (tgt := 29) cx.x cx.b dX11_change_23 (by decide) (fun hb23 => absurd (wth_eq0.mpr hc) hb23) (fun hb23 => ?_)
      refine lv_bipush (v := (-102)) cx.x cx.b dX11_change_26 (by decide) ?_
      exact ret_i (σ, 0, fl, dv) cx hw (okM_0 (by unfold aChange; rw [if_pos hv, if_neg hc])) dX11_change_28 (Nat.le_of_ble_eq_true rfl) (Nat.le_of_ble_eq_true rfl)
  · refine lv_aload_n cx.x cx.b dX11_change_0 rfl (lv_at hl 0 rfl) ?_
    refine lv_iconst (v := 0) cx.x cx.b dX11_change_1 (by decide) ?_
    refine pt_f cx hw 0 (mw_h σ th fl dv) rfl inX11 tyX11 tyX11_ok nmX11 0 (by decide) tw_757 ⟨rfl, rfl, Or.inl rfl⟩ rfl rfl rfl rfl (Nat.le_of_ble_eq_true rfl) dX11_change_2 (w1 := mw M Q (σ, 0, fl, dv)) mw_p0 (fun H locs hw => ?_)
    refine lv_aload_n cx.x cx.b dX11_change_5 rfl (lv_at hl 0 rfl) ?_
    refine lv_iload_n cx.x cx.b dX11_change_6 rfl (lv_at hl 1 rfl) ?_
    refine cgo_i cx hw (rV_i (q0 := 0) (n := 1) (As := [.int lo]) (rest := []) cx hw (c_X11_isLoaf l D M Q σ 0 fl dv lo) (gd_V tw_835 tw_837 ts_7 tw_4 tw_838) rfl ⟨by decide +kernel, rfl, hl.1, (Nat.le_of_ble_eq_true rfl), ⟨(Nat.le_of_ble_eq_true rfl), (Nat.le_of_ble_eq_true rfl)⟩, ⟨(Nat.le_of_ble_eq_true rfl), (Nat.le_of_ble_eq_true rfl)⟩, rfl, rfl⟩ rfl (mw_h σ 0 fl dv) rfl dX11_change_7) (fun r u H locs hp hw => ?_)
    obtain ⟨h8, h9⟩ := hp
    have h8 := h8.symm
    have h9 := h9.symm
    subst h8
    subst h9
    refine lv_if_ne (tgt := 16) cx.x cx.b dX11_change_10 (by decide) (fun hb10 => absurd ((isL hN9).mpr hv) hb10) (fun hb10 => ?_)
    refine lv_bipush (v := (-101)) cx.x cx.b dX11_change_13 (by decide) ?_
    exact ret_i (σ, 0, fl, dv) cx hw (okM_0 (by unfold aChange; rw [if_neg hv])) dX11_change_15 (Nat.le_of_ble_eq_true rfl) (Nat.le_of_ble_eq_true rfl)
set_option maxHeartbeats 4000000 in
set_option maxRecDepth 100000 in
theorem c_X11_lay (l : Launch) (D : va_G) (M : Nat → Nat) (Q : Nat → ClassId) (σ : St) (th fl dv : Int32) {b : Nat} (hI : Inv (b + 100) σ) (lo ks pl : Int32) : MI l yX11_lay cX11_lay 8 .int ({ frames := 4, cells := 0, slots := 0, locals := 88 }) D cls (tyl Q) [.ref (M 0), .int lo, .int ks, .int pl] (mw M Q) (mw M Q (σ, th, fl, dv)) (okM (aLay σ lo ks pl)) 0 0 := by
  refine MI_of (by decide) (Nat.le_of_ble_eq_true rfl) ?_
  intro p e s m args below meth c A ls cx hw hl
  have hl : lv_has ls 8 [(0, .ref (M 0)), (1, .int lo), (2, .int ks), (3, .int pl)] := hl
  have hN9 := hI.n
  have hb9 : s_N σ + 100 < 2 ^ 30 := by have := hI.2.2.2.2.1; omega
  by_cases hv : okL σ lo
  · obtain ⟨i, hn, rfl⟩ := okL_i hN9 hv
    have hd := hI.k hn
    have hi : i < 20 := by omega
    by_cases hs : okS ks
    · obtain ⟨k, hk, rfl⟩ := okS_k hs
      by_cases g1 : wLay (s_k σ i) (s_z σ k) pl = 0
      · refine lv_aload_n cx.x cx.b dX11_lay_0 rfl (lv_at hl 0 rfl) ?_
        refine lv_iconst (v := 0) cx.x cx.b dX11_lay_1 (by decide) ?_
        refine pt_f cx hw 0 (mw_h σ th fl dv) rfl inX11 tyX11 tyX11_ok nmX11 0 (by decide) tw_757 ⟨rfl, rfl, Or.inl rfl⟩ rfl rfl rfl rfl (Nat.le_of_ble_eq_true rfl) dX11_lay_2 (w1 := mw M Q (σ, 0, fl, dv)) mw_p0 (fun H locs hw => ?_)
        refine lv_aload_n cx.x cx.b dX11_lay_5 rfl (lv_at hl 0 rfl) ?_
        refine lv_iload_n cx.x cx.b dX11_lay_6 rfl (lv_at hl 1 rfl) ?_
        refine cgo_i cx hw (rV_i (q0 := 0) (n := 1) (As := [.int (nI i)]) (rest := []) cx hw (c_X11_isLoaf l D M Q σ 0 fl dv (nI i)) (gd_V tw_835 tw_837 ts_7 tw_4 tw_838) rfl ⟨by decide +kernel, rfl, hl.1, (Nat.le_of_ble_eq_true rfl), ⟨(Nat.le_of_ble_eq_true rfl), (Nat.le_of_ble_eq_true rfl)⟩, ⟨(Nat.le_of_ble_eq_true rfl), (Nat.le_of_ble_eq_true rfl)⟩, rfl, rfl⟩ rfl (mw_h σ 0 fl dv) rfl dX11_lay_7) (fun r u H locs hp hw => ?_)
        obtain ⟨h8, h9⟩ := hp
        have h8 := h8.symm
        have h9 := h9.symm
        subst h8
        subst h9
        refine lv_if_ne (tgt := 16) cx.x cx.b dX11_lay_10 (by decide) (fun hb10 => ?_) (fun hb10 => absurd hv ((isL hN9).mp hb10))
        refine lv_iload_n cx.x cx.b dX11_lay_16 rfl (lv_at hl 2 rfl) ?_
        refine cgo_i cx hw (rS_i (n := 1) (As := [.int (nI k)]) (rest := []) cx hw (c_X11_isShelf l D M Q σ 0 fl dv (nI k)) (gd_S tw_824 tw_825 tw_4 tw_826) ⟨by decide +kernel, rfl, hl.1, (Nat.le_of_ble_eq_true rfl), ⟨(Nat.le_of_ble_eq_true rfl), (Nat.le_of_ble_eq_true rfl)⟩, ⟨(Nat.le_of_ble_eq_true rfl), (Nat.le_of_ble_eq_true rfl)⟩, rfl, rfl⟩ rfl dX11_lay_17) (fun r u H locs hp hw => ?_)
        obtain ⟨h8, h9⟩ := hp
        have h8 := h8.symm
        have h9 := h9.symm
        subst h8
        subst h9
        refine lv_if_ne (tgt := 26) cx.x cx.b dX11_lay_20 (by decide) (fun hb20 => ?_) (fun hb20 => absurd hs (isS.mp hb20))
        refine lv_aload_n cx.x cx.b dX11_lay_26 rfl (lv_at hl 0 rfl) ?_
        refine lv_iload_n cx.x cx.b dX11_lay_27 rfl (lv_at hl 1 rfl) ?_
        refine lv_iload_n cx.x cx.b dX11_lay_28 rfl (lv_at hl 2 rfl) ?_
        refine lv_iload_n cx.x cx.b dX11_lay_29 rfl (lv_at hl 3 rfl) ?_
        refine cgo_i cx hw (rV_i (q0 := 0) (n := 3) (As := [.int (nI i), .int (nI k), .int pl]) (rest := []) cx hw (c_X11_lays l D M Q σ 0 fl dv i hi (by show s_N σ + 4 < 2 ^ 30; omega) hd k hk (hI.2.2.1 k hk) pl) (gd_V tw_875 tw_877 ts_15 tw_4 tw_878) rfl ⟨by decide +kernel, rfl, hl.1, (Nat.le_of_ble_eq_true rfl), ⟨(Nat.le_of_ble_eq_true rfl), (Nat.le_of_ble_eq_true rfl)⟩, ⟨(Nat.le_of_ble_eq_true rfl), (Nat.le_of_ble_eq_true rfl)⟩, rfl, rfl⟩ rfl (mw_h σ 0 fl dv) rfl dX11_lay_30) (fun r u H locs hp hw => ?_)
        obtain ⟨h8, h9⟩ := hp
        have h8 := h8.symm
        have h9 := h9.symm
        subst h8
        subst h9
        refine lv_istore (lv' := [(4, .int (nI (wLay (s_k σ i) (s_z σ k) pl))), (0, .ref (M 0)), (1, .int (nI i)), (2, .int (nI k)), (3, .int pl)]) cx.x cx.b dX11_lay_33 hl (by decide) rfl (fun ls hl => ?_)
        refine lv_iload cx.x cx.b dX11_lay_35 (lv_at hl 0 rfl) ?_
        refine lv_if_le (tgt := 58) cx.x cx.b dX11_lay_37 (by decide) (fun hb37 => ?_) (fun hb37 => absurd ((nI_0le wLay_le).mpr g1) hb37)
        generalize hw9 : sLay (s_k σ i) i k pl σ = wst at hw
        have hzw : ∀ t, t < 4 → okZ (s_z wst t) := fun t ht => by rw [← hw9, sLay_z]; exact hI.2.2.1 t ht
        refine lv_iconst (v := 0) cx.x cx.b dX11_lay_58 (by decide) ?_
        refine lv_istore (lv' := [(5, .int 0), (4, .int (nI (wLay (s_k σ i) (s_z σ k) pl))), (0, .ref (M 0)), (1, .int (nI i)), (2, .int (nI k)), (3, .int pl)]) cx.x cx.b dX11_lay_59 hl (by decide) rfl (fun ls hl => ?_)
        refine lv_iconst (v := 0) cx.x cx.b dX11_lay_61 (by decide) ?_
        refine lv_istore (lv' := [(6, .int 0), (5, .int 0), (4, .int (nI (wLay (s_k σ i) (s_z σ k) pl))), (0, .ref (M 0)), (1, .int (nI i)), (2, .int (nI k)), (3, .int pl)]) cx.x cx.b dX11_lay_62 hl (by decide) rfl (fun ls hl => ?_)
        refine loopN 4 (fun _ => 0) (fun _ => 0) (fun t H locs ls => Wd D cls A s H locs (mw M Q (wst, 0, fl, dv)) ∧ lv_has ls 8 [(6, .int (nI t)), (5, .int (pO wst (nI i) t)), (4, .int (nI (wLay (s_k σ i) (s_z σ k) pl))), (0, .ref (M 0)), (1, .int (nI i)), (2, .int (nI k)), (3, .int pl)]) ⟨hw, lv_sub hl [0, 1, 2, 3, 4, 5, 6] rfl⟩ (fun H locs ls ⟨hw, hl⟩ => ?_) (fun t ht H locs ls ⟨hw, hl⟩ kk => ?_)
        · refine lv_iload cx.x cx.b dX11_lay_64 (lv_at hl 0 rfl) ?_
          refine lv_iconst (v := 4) cx.x cx.b dX11_lay_66 (by decide) ?_
          refine lv_icmp_ge (tgt := 124) cx.x cx.b dX11_lay_67 (by decide) (fun hb67 => ?_) (fun hb67 => absurd (by decide) hb67)
          refine lv_iload cx.x cx.b dX11_lay_124 (lv_at hl 1 rfl) ?_
          exact ret_i (wst, 0, fl, dv) cx hw (okM_0 (by unfold aLay; rw [if_pos hv, if_pos hs, cl20 hN9 hn, cl4 hk, if_pos g1, hw9])) dX11_lay_126 (Nat.le_of_ble_eq_true rfl) (Nat.le_of_ble_eq_true rfl)
        · refine lv_iload cx.x cx.b dX11_lay_64 (lv_at hl 0 rfl) ?_
          refine lv_iconst (v := 4) cx.x cx.b dX11_lay_66 (by decide) ?_
          refine lv_icmp_ge (tgt := 124) cx.x cx.b dX11_lay_67 (by decide) (fun hb67 => absurd hb67 (nI_ge (b := 4) ht (by decide))) (fun hb67 => ?_)
          refine lv_iconst (v := 0) cx.x cx.b dX11_lay_70 (by decide) ?_
          refine lv_istore (lv' := [(7, .int 0), (6, .int (nI t)), (5, .int (pO wst (nI i) t)), (4, .int (nI (wLay (s_k σ i) (s_z σ k) pl))), (0, .ref (M 0)), (1, .int (nI i)), (2, .int (nI k)), (3, .int pl)]) cx.x cx.b dX11_lay_71 hl (by decide) rfl (fun ls hl => ?_)
          refine loopN (zc (s_z wst t)) (fun _ => 0) (fun _ => 0) (fun j H locs ls => Wd D cls A s H locs (mw M Q (wst, 0, fl, dv)) ∧ lv_has ls 8 [(7, .int (nI j)), (5, .int (pO wst (nI i) t + tO wst t (nI i) j)), (6, .int (nI t)), (4, .int (nI (wLay (s_k σ i) (s_z σ k) pl))), (0, .ref (M 0)), (1, .int (nI i)), (2, .int (nI k)), (3, .int pl)]) ⟨hw, (by rw [show pO wst (nI i) t = pO wst (nI i) t + tO wst t (nI i) 0 from (Int32.add_zero _).symm] at hl; exact lv_sub hl [0, 2, 1, 3, 4, 5, 6, 7] rfl)⟩ (fun H locs ls ⟨hw, hl⟩ => ?_) (fun j hj H locs ls ⟨hw, hl⟩ kk2 => ?_)
          · refine lv_iload cx.x cx.b dX11_lay_73 (lv_at hl 0 rfl) ?_
            refine lv_aload_n cx.x cx.b dX11_lay_75 rfl (lv_at hl 4 rfl) ?_
            refine gt_f (v := .ref (M 7)) cx hw 0 (mw_h wst 0 fl dv) rfl inX11 8 (by decide) tw_765 ⟨rfl, rfl, Or.inl rfl⟩ rfl dX11_lay_76 ?_
            refine lv_iload cx.x cx.b dX11_lay_79 (lv_at hl 2 rfl) ?_
            refine ald_i (f := (s_z wst)) cx hw 7 0 rfl rfl t rfl ht (by decide) dX11_lay_81 ?_
            refine lv_icmp_ge (tgt := 118) cx.x cx.b dX11_lay_82 (by decide) (fun hb82 => ?_) (fun hb82 => absurd (zc_out (hzw t ht)) hb82)
            refine lv_iinc (v := ((nI t) + 1)) (lv' := [(6, .int ((nI t) + 1)), (7, .int (nI (zc (s_z wst t)))), (5, .int (pO wst (nI i) t + tO wst t (nI i) (zc (s_z wst t)))), (4, .int (nI (wLay (s_k σ i) (s_z σ k) pl))), (0, .ref (M 0)), (1, .int (nI i)), (2, .int (nI k)), (3, .int pl)]) cx.x cx.b dX11_lay_118 hl (k := 2) rfl rfl (by decide) rfl (fun ls hl => ?_)
            refine lv_goto (tgt := 64) cx.x cx.b dX11_lay_121 (by decide) ?_
            rw [nI_1, ← tO_zc hi (hzw t ht)] at hl
            exact kk H locs ls ⟨hw, lv_sub hl [0, 2, 3, 4, 5, 6, 7] rfl⟩
          · refine lv_iload cx.x cx.b dX11_lay_73 (lv_at hl 0 rfl) ?_
            refine lv_aload_n cx.x cx.b dX11_lay_75 rfl (lv_at hl 4 rfl) ?_
            refine gt_f (v := .ref (M 7)) cx hw 0 (mw_h wst 0 fl dv) rfl inX11 8 (by decide) tw_765 ⟨rfl, rfl, Or.inl rfl⟩ rfl dX11_lay_76 ?_
            refine lv_iload cx.x cx.b dX11_lay_79 (lv_at hl 2 rfl) ?_
            refine ald_i (f := (s_z wst)) cx hw 7 0 rfl rfl t rfl ht (by decide) dX11_lay_81 ?_
            refine lv_icmp_ge (tgt := 118) cx.x cx.b dX11_lay_82 (by decide) (fun hb82 => absurd hb82 (zc_in (hzw t ht) hj)) (fun hb82 => ?_)
            refine lv_iload cx.x cx.b dX11_lay_85 (lv_at hl 1 rfl) ?_
            refine lv_aload_n cx.x cx.b dX11_lay_87 rfl (lv_at hl 4 rfl) ?_
            refine gt_f (v := .ref (M 8)) cx hw 0 (mw_h wst 0 fl dv) rfl inX11 9 (by decide) tw_766 ⟨rfl, rfl, Or.inl rfl⟩ rfl dX11_lay_88 ?_
            refine lv_bipush (v := 8) cx.x cx.b dX11_lay_91 (by decide) ?_
            refine lv_iload cx.x cx.b dX11_lay_93 (lv_at hl 2 rfl) ?_
            refine lv_imul cx.x cx.b dX11_lay_95 ?_
            refine lv_iload cx.x cx.b dX11_lay_96 (lv_at hl 0 rfl) ?_
            refine lv_iadd cx.x cx.b dX11_lay_98 ?_
            refine ald_i (f := (fun x9 => s_r wst (x9 / 8) (x9 % 8))) cx hw 8 0 rfl rfl (8 * t + j) i8 (by have := zc_le (hzw t ht); omega) (by decide) dX11_lay_99 ?_
            refine lv_iload_n cx.x cx.b dX11_lay_100 rfl (lv_at hl 5 rfl) ?_
            refine lv_icmp_ne (tgt := 108) cx.x cx.b dX11_lay_101 (by decide) (fun hb101 => ?_) (fun hb101 => ?_)
            · refine lv_iconst (v := 0) cx.x cx.b dX11_lay_108 (by decide) ?_
              refine lv_iadd cx.x cx.b dX11_lay_109 ?_
              refine lv_istore (lv' := [(5, .int ((pO wst (nI i) t + tO wst t (nI i) j) + 0)), (7, .int (nI j)), (6, .int (nI t)), (4, .int (nI (wLay (s_k σ i) (s_z σ k) pl))), (0, .ref (M 0)), (1, .int (nI i)), (2, .int (nI k)), (3, .int pl)]) cx.x cx.b dX11_lay_110 hl (by decide) rfl (fun ls hl => ?_)
              refine lv_iinc (v := ((nI j) + 1)) (lv' := [(7, .int ((nI j) + 1)), (5, .int ((pO wst (nI i) t + tO wst t (nI i) j) + 0)), (6, .int (nI t)), (4, .int (nI (wLay (s_k σ i) (s_z σ k) pl))), (0, .ref (M 0)), (1, .int (nI i)), (2, .int (nI k)), (3, .int pl)]) cx.x cx.b dX11_lay_112 hl (k := 1) rfl rfl (by decide) rfl (fun ls hl => ?_)
              refine lv_goto (tgt := 73) cx.x cx.b dX11_lay_115 (by decide) ?_
              have hj8 := zc_le (hzw t ht)
              rw [show (8 * t + j) / 8 = t by omega, show (8 * t + j) % 8 = j by omega] at hb101
              rw [nI_1, Int32.add_zero] at hl
              exact kk2 H locs ls ⟨hw, by rw [tO, if_pos (zc_has (hzw t ht) hj), if_neg hb101]; exact lv_sub hl [0, 1, 2, 3, 4, 5, 6, 7] rfl⟩
            · refine lv_iconst (v := 1) cx.x cx.b dX11_lay_104 (by decide) ?_
              refine lv_goto (tgt := 109) cx.x cx.b dX11_lay_105 (by decide) ?_
              refine lv_iadd cx.x cx.b dX11_lay_109 ?_
              refine lv_istore (lv' := [(5, .int ((pO wst (nI i) t + tO wst t (nI i) j) + 1)), (7, .int (nI j)), (6, .int (nI t)), (4, .int (nI (wLay (s_k σ i) (s_z σ k) pl))), (0, .ref (M 0)), (1, .int (nI i)), (2, .int (nI k)), (3, .int pl)]) cx.x cx.b dX11_lay_110 hl (by decide) rfl (fun ls hl => ?_)
              refine lv_iinc (v := ((nI j) + 1)) (lv' := [(7, .int ((nI j) + 1)), (5, .int ((pO wst (nI i) t + tO wst t (nI i) j) + 1)), (6, .int (nI t)), (4, .int (nI (wLay (s_k σ i) (s_z σ k) pl))), (0, .ref (M 0)), (1, .int (nI i)), (2, .int (nI k)), (3, .int pl)]) cx.x cx.b dX11_lay_112 hl (k := 1) rfl rfl (by decide) rfl (fun ls hl => ?_)
              refine lv_goto (tgt := 73) cx.x cx.b dX11_lay_115 (by decide) ?_
              have hj8 := zc_le (hzw t ht)
              rw [show (8 * t + j) / 8 = t by omega, show (8 * t + j) % 8 = j by omega] at hb101
              rw [nI_1, Int32.add_assoc] at hl
              exact kk2 H locs ls ⟨hw, by rw [tO, if_pos (zc_has (hzw t ht) hj), if_pos hb101]; exact lv_sub hl [0, 1, 2, 3, 4, 5, 6, 7] rfl⟩
      · refine lv_aload_n cx.x cx.b dX11_lay_0 rfl (lv_at hl 0 rfl) ?_
        refine lv_iconst (v := 0) cx.x cx.b dX11_lay_1 (by decide) ?_
        refine pt_f cx hw 0 (mw_h σ th fl dv) rfl inX11 tyX11 tyX11_ok nmX11 0 (by decide) tw_757 ⟨rfl, rfl, Or.inl rfl⟩ rfl rfl rfl rfl (Nat.le_of_ble_eq_true rfl) dX11_lay_2 (w1 := mw M Q (σ, 0, fl, dv)) mw_p0 (fun H locs hw => ?_)
        refine lv_aload_n cx.x cx.b dX11_lay_5 rfl (lv_at hl 0 rfl) ?_
        refine lv_iload_n cx.x cx.b dX11_lay_6 rfl (lv_at hl 1 rfl) ?_
        refine cgo_i cx hw (rV_i (q0 := 0) (n := 1) (As := [.int (nI i)]) (rest := []) cx hw (c_X11_isLoaf l D M Q σ 0 fl dv (nI i)) (gd_V tw_835 tw_837 ts_7 tw_4 tw_838) rfl ⟨by decide +kernel, rfl, hl.1, (Nat.le_of_ble_eq_true rfl), ⟨(Nat.le_of_ble_eq_true rfl), (Nat.le_of_ble_eq_true rfl)⟩, ⟨(Nat.le_of_ble_eq_true rfl), (Nat.le_of_ble_eq_true rfl)⟩, rfl, rfl⟩ rfl (mw_h σ 0 fl dv) rfl dX11_lay_7) (fun r u H locs hp hw => ?_)
        obtain ⟨h8, h9⟩ := hp
        have h8 := h8.symm
        have h9 := h9.symm
        subst h8
        subst h9
        refine lv_if_ne (tgt := 16) cx.x cx.b dX11_lay_10 (by decide) (fun hb10 => ?_) (fun hb10 => absurd hv ((isL hN9).mp hb10))
        refine lv_iload_n cx.x cx.b dX11_lay_16 rfl (lv_at hl 2 rfl) ?_
        refine cgo_i cx hw (rS_i (n := 1) (As := [.int (nI k)]) (rest := []) cx hw (c_X11_isShelf l D M Q σ 0 fl dv (nI k)) (gd_S tw_824 tw_825 tw_4 tw_826) ⟨by decide +kernel, rfl, hl.1, (Nat.le_of_ble_eq_true rfl), ⟨(Nat.le_of_ble_eq_true rfl), (Nat.le_of_ble_eq_true rfl)⟩, ⟨(Nat.le_of_ble_eq_true rfl), (Nat.le_of_ble_eq_true rfl)⟩, rfl, rfl⟩ rfl dX11_lay_17) (fun r u H locs hp hw => ?_)
        obtain ⟨h8, h9⟩ := hp
        have h8 := h8.symm
        have h9 := h9.symm
        subst h8
        subst h9
        refine lv_if_ne (tgt := 26) cx.x cx.b dX11_lay_20 (by decide) (fun hb20 => ?_) (fun hb20 => absurd hs (isS.mp hb20))
        refine lv_aload_n cx.x cx.b dX11_lay_26 rfl (lv_at hl 0 rfl) ?_
        refine lv_iload_n cx.x cx.b dX11_lay_27 rfl (lv_at hl 1 rfl) ?_
        refine lv_iload_n cx.x cx.b dX11_lay_28 rfl (lv_at hl 2 rfl) ?_
        refine lv_iload_n cx.x cx.b dX11_lay_29 rfl (lv_at hl 3 rfl) ?_
        refine cgo_i cx hw (rV_i (q0 := 0) (n := 3) (As := [.int (nI i), .int (nI k), .int pl]) (rest := []) cx hw (c_X11_lays l D M Q σ 0 fl dv i hi (by show s_N σ + 4 < 2 ^ 30; omega) hd k hk (hI.2.2.1 k hk) pl) (gd_V tw_875 tw_877 ts_15 tw_4 tw_878) rfl ⟨by decide +kernel, rfl, hl.1, (Nat.le_of_ble_eq_true rfl), ⟨(Nat.le_of_ble_eq_true rfl), (Nat.le_of_ble_eq_true rfl)⟩, ⟨(Nat.le_of_ble_eq_true rfl), (Nat.le_of_ble_eq_true rfl)⟩, rfl, rfl⟩ rfl (mw_h σ 0 fl dv) rfl dX11_lay_30) (fun r u H locs hp hw => ?_)
        obtain ⟨h8, h9⟩ := hp
        have h8 := h8.symm
        have h9 := h9.symm
        subst h8
        subst h9
        refine lv_istore (lv' := [(4, .int (nI (wLay (s_k σ i) (s_z σ k) pl))), (0, .ref (M 0)), (1, .int (nI i)), (2, .int (nI k)), (3, .int pl)]) cx.x cx.b dX11_lay_33 hl (by decide) rfl (fun ls hl => ?_)
        refine lv_iload cx.x cx.b dX11_lay_35 (lv_at hl 0 rfl) ?_
        refine lv_if_le (tgt := 58) cx.x cx.b dX11_lay_37 (by decide) (fun hb37 => absurd ((nI_0le wLay_le).mp hb37) g1) (fun hb37 => ?_)
        refine lv_aload_n cx.x cx.b dX11_lay_40 rfl (lv_at hl 1 rfl) ?_
        refine lv_dup cx.x cx.b dX11_lay_41 rfl ?_
        refine gt_f (v := .int (s_c (sLay (s_k σ i) i k pl σ) 5)) cx hw 0 (mw_h (sLay (s_k σ i) i k pl σ) 0 fl dv) rfl inX11 13 (by decide) tw_770 ⟨rfl, rfl, Or.inl rfl⟩ rfl dX11_lay_42 ?_
        refine lv_iconst (v := 1) cx.x cx.b dX11_lay_45 (by decide) ?_
        refine lv_iadd cx.x cx.b dX11_lay_46 ?_
        refine pt_f cx hw 0 (mw_h (sLay (s_k σ i) i k pl σ) 0 fl dv) rfl inX11 tyX11 tyX11_ok nmX11 13 (by decide) tw_770 ⟨rfl, rfl, Or.inl rfl⟩ rfl rfl rfl rfl (Nat.le_of_ble_eq_true rfl) dX11_lay_47 (w1 := mw M Q (sC 5 ((s_c (sLay (s_k σ i) i k pl σ) 5) + 1) (sLay (s_k σ i) i k pl σ), 0, fl, dv)) mw_p13 (fun H locs hw => ?_)
        refine lv_aload_n cx.x cx.b dX11_lay_50 rfl (lv_at hl 1 rfl) ?_
        refine lv_iload cx.x cx.b dX11_lay_51 (lv_at hl 0 rfl) ?_
        refine pt_f cx hw 0 (mw_h (sC 5 ((s_c (sLay (s_k σ i) i k pl σ) 5) + 1) (sLay (s_k σ i) i k pl σ)) 0 fl dv) rfl inX11 tyX11 tyX11_ok nmX11 0 (by decide) tw_757 ⟨rfl, rfl, Or.inl rfl⟩ rfl rfl rfl rfl (Nat.le_of_ble_eq_true rfl) dX11_lay_53 (w1 := mw M Q (sC 5 ((s_c (sLay (s_k σ i) i k pl σ) 5) + 1) (sLay (s_k σ i) i k pl σ), (nI (wLay (s_k σ i) (s_z σ k) pl)), fl, dv)) mw_p0 (fun H locs hw => ?_)
        refine lv_iconst (v := 0) cx.x cx.b dX11_lay_56 (by decide) ?_
        exact ret_i (sC 5 ((s_c (sLay (s_k σ i) i k pl σ) 5) + 1) (sLay (s_k σ i) i k pl σ), (nI (wLay (s_k σ i) (s_z σ k) pl)), fl, dv) cx hw (okM_1 (by unfold aLay; rw [if_pos hv, if_pos hs, cl20 hN9 hn, cl4 hk, if_neg g1]; rfl) g1 rfl) dX11_lay_57 (Nat.le_of_ble_eq_true rfl) (Nat.le_of_ble_eq_true rfl)
    · refine lv_aload_n cx.x cx.b dX11_lay_0 rfl (lv_at hl 0 rfl) ?_
      refine lv_iconst (v := 0) cx.x cx.b dX11_lay_1 (by decide) ?_
      refine pt_f cx hw 0 (mw_h σ th fl dv) rfl inX11 tyX11 tyX11_ok nmX11 0 (by decide) tw_757 ⟨rfl, rfl, Or.inl rfl⟩ rfl rfl rfl rfl (Nat.le_of_ble_eq_true rfl) dX11_lay_2 (w1 := mw M Q (σ, 0, fl, dv)) mw_p0 (fun H locs hw => ?_)
      refine lv_aload_n cx.x cx.b dX11_lay_5 rfl (lv_at hl 0 rfl) ?_
      refine lv_iload_n cx.x cx.b dX11_lay_6 rfl (lv_at hl 1 rfl) ?_
      refine cgo_i cx hw (rV_i (q0 := 0) (n := 1) (As := [.int (nI i)]) (rest := []) cx hw (c_X11_isLoaf l D M Q σ 0 fl dv (nI i)) (gd_V tw_835 tw_837 ts_7 tw_4 tw_838) rfl ⟨by decide +kernel, rfl, hl.1, (Nat.le_of_ble_eq_true rfl), ⟨(Nat.le_of_ble_eq_true rfl), (Nat.le_of_ble_eq_true rfl)⟩, ⟨(Nat.le_of_ble_eq_true rfl), (Nat.le_of_ble_eq_true rfl)⟩, rfl, rfl⟩ rfl (mw_h σ 0 fl dv) rfl dX11_lay_7) (fun r u H locs hp hw => ?_)
      obtain ⟨h8, h9⟩ := hp
      have h8 := h8.symm
      have h9 := h9.symm
      subst h8
      subst h9
      refine lv_if_ne (tgt := 16) cx.x cx.b dX11_lay_10 (by decide) (fun hb10 => ?_) (fun hb10 => absurd hv ((isL hN9).mp hb10))
      refine lv_iload_n cx.x cx.b dX11_lay_16 rfl (lv_at hl 2 rfl) ?_
      refine cgo_i cx hw (rS_i (n := 1) (As := [.int ks]) (rest := []) cx hw (c_X11_isShelf l D M Q σ 0 fl dv ks) (gd_S tw_824 tw_825 tw_4 tw_826) ⟨by decide +kernel, rfl, hl.1, (Nat.le_of_ble_eq_true rfl), ⟨(Nat.le_of_ble_eq_true rfl), (Nat.le_of_ble_eq_true rfl)⟩, ⟨(Nat.le_of_ble_eq_true rfl), (Nat.le_of_ble_eq_true rfl)⟩, rfl, rfl⟩ rfl dX11_lay_17) (fun r u H locs hp hw => ?_)
      obtain ⟨h8, h9⟩ := hp
      have h8 := h8.symm
      have h9 := h9.symm
      subst h8
      subst h9
      refine lv_if_ne (tgt := 26) cx.x cx.b dX11_lay_20 (by decide) (fun hb20 => absurd (isS.mpr hs) hb20) (fun hb20 => ?_)
      refine lv_bipush (v := (-102)) cx.x cx.b dX11_lay_23 (by decide) ?_
      exact ret_i (σ, 0, fl, dv) cx hw (okM_0 (by unfold aLay; rw [if_pos hv, if_neg hs])) dX11_lay_25 (Nat.le_of_ble_eq_true rfl) (Nat.le_of_ble_eq_true rfl)
  · refine lv_aload_n cx.x cx.b dX11_lay_0 rfl (lv_at hl 0 rfl) ?_
    refine lv_iconst (v := 0) cx.x cx.b dX11_lay_1 (by decide) ?_
    refine pt_f cx hw 0 (mw_h σ th fl dv) rfl inX11 tyX11 tyX11_ok nmX11 0 (by decide) tw_757 ⟨rfl, rfl, Or.inl rfl⟩ rfl rfl rfl rfl (Nat.le_of_ble_eq_true rfl) dX11_lay_2 (w1 := mw M Q (σ, 0, fl, dv)) mw_p0 (fun H locs hw => ?_)
    refine lv_aload_n cx.x cx.b dX11_lay_5 rfl (lv_at hl 0 rfl) ?_
    refine lv_iload_n cx.x cx.b dX11_lay_6 rfl (lv_at hl 1 rfl) ?_
    refine cgo_i cx hw (rV_i (q0 := 0) (n := 1) (As := [.int lo]) (rest := []) cx hw (c_X11_isLoaf l D M Q σ 0 fl dv lo) (gd_V tw_835 tw_837 ts_7 tw_4 tw_838) rfl ⟨by decide +kernel, rfl, hl.1, (Nat.le_of_ble_eq_true rfl), ⟨(Nat.le_of_ble_eq_true rfl), (Nat.le_of_ble_eq_true rfl)⟩, ⟨(Nat.le_of_ble_eq_true rfl), (Nat.le_of_ble_eq_true rfl)⟩, rfl, rfl⟩ rfl (mw_h σ 0 fl dv) rfl dX11_lay_7) (fun r u H locs hp hw => ?_)
    obtain ⟨h8, h9⟩ := hp
    have h8 := h8.symm
    have h9 := h9.symm
    subst h8
    subst h9
    refine lv_if_ne (tgt := 16) cx.x cx.b dX11_lay_10 (by decide) (fun hb10 => absurd ((isL hN9).mpr hv) hb10) (fun hb10 => ?_)
    refine lv_bipush (v := (-101)) cx.x cx.b dX11_lay_13 (by decide) ?_
    exact ret_i (σ, 0, fl, dv) cx hw (okM_0 (by unfold aLay; rw [if_neg hv])) dX11_lay_15 (Nat.le_of_ble_eq_true rfl) (Nat.le_of_ble_eq_true rfl)
set_option maxHeartbeats 4000000 in
set_option maxRecDepth 100000 in
theorem c_X11_night (l : Launch) (D : va_G) (M : Nat → Nat) (Q : Nat → ClassId) (σ : St) (th fl dv : Int32) {b : Nat} (hI : Inv (b + 100) σ) (mi : Int32) : MI l yX11_night cX11_night 5 .int ({ frames := 5, cells := 0, slots := 0, locals := 110 }) D cls (tyl Q) [.ref (M 0), .int mi] (mw M Q) (mw M Q (σ, th, fl, dv)) (okM (aNight σ mi)) 0 0 := by
  refine MI_of (by decide) (Nat.le_of_ble_eq_true rfl) ?_
  intro p e s m args below meth c A ls cx hw hl
  have hl : lv_has ls 5 [(0, .ref (M 0)), (1, .int mi)] := hl
  have hN9 := hI.n
  have hb9 : s_N σ + 100 < 2 ^ 30 := by have := hI.2.2.2.2.1; omega
  by_cases hm : w600 mi
  · refine lv_aload_n cx.x cx.b dX11_night_0 rfl (lv_at hl 0 rfl) ?_
    refine lv_iconst (v := 0) cx.x cx.b dX11_night_1 (by decide) ?_
    refine pt_f cx hw 0 (mw_h σ th fl dv) rfl inX11 tyX11 tyX11_ok nmX11 0 (by decide) tw_757 ⟨rfl, rfl, Or.inl rfl⟩ rfl rfl rfl rfl (Nat.le_of_ble_eq_true rfl) dX11_night_2 (w1 := mw M Q (σ, 0, fl, dv)) mw_p0 (fun H locs hw => ?_)
    refine lv_iload_n cx.x cx.b dX11_night_5 rfl (lv_at hl 1 rfl) ?_
    refine lv_iconst (v := 0) cx.x cx.b dX11_night_6 (by decide) ?_
    refine lv_sipush (v := 600) cx.x cx.b dX11_night_7 (by decide) ?_
    refine cgo_i cx hw (rS_i (n := 3) (As := [.int mi, .int 0, .int 600]) (rest := []) cx hw (c_X11_within l D M Q σ 0 fl dv mi 0 600) (gd_S tw_817 tw_818 tw_4 tw_819) ⟨by decide +kernel, rfl, hl.1, (Nat.le_of_ble_eq_true rfl), ⟨(Nat.le_of_ble_eq_true rfl), (Nat.le_of_ble_eq_true rfl)⟩, ⟨(Nat.le_of_ble_eq_true rfl), (Nat.le_of_ble_eq_true rfl)⟩, rfl, rfl⟩ rfl dX11_night_10) (fun r u H locs hp hw => ?_)
    obtain ⟨h8, h9⟩ := hp
    have h8 := h8.symm
    have h9 := h9.symm
    subst h8
    subst h9
    refine lv_if_ne (tgt := 19) cx.x cx.b dX11_night_13 (by decide) (fun hb13 => ?_) (fun hb13 => absurd hb13 (by rw [wth_eq0]; exact fun h => h hm))
    refine lv_iconst (v := 0) cx.x cx.b dX11_night_19 (by decide) ?_
    refine lv_istore_n (lv' := [(2, .int 0), (0, .ref (M 0)), (1, .int mi)]) cx.x cx.b dX11_night_20 rfl hl (by decide) rfl (fun ls hl => ?_)
    refine lv_iconst (v := 0) cx.x cx.b dX11_night_21 (by decide) ?_
    refine lv_istore_n (lv' := [(3, .int 0), (2, .int 0), (0, .ref (M 0)), (1, .int mi)]) cx.x cx.b dX11_night_22 rfl hl (by decide) rfl (fun ls hl => ?_)
    refine loopN (s_n σ) (fun _ => 0) (fun _ => 0) (fun j H locs ls => Wd D cls A s H locs (mw M Q ((niI mi σ j).2, 0, nfl mi σ fl j, dv)) ∧ lv_has ls 5 [(3, .int (nI j)), (2, .int ((niI mi σ j).1)), (0, .ref (M 0)), (1, .int mi)]) ⟨hw, hl⟩ (fun H locs ls ⟨hw, hl⟩ => ?_) (fun j hj H locs ls ⟨hw, hl⟩ kk => ?_)
    · refine lv_iload_n cx.x cx.b dX11_night_23 rfl (lv_at hl 0 rfl) ?_
      refine lv_aload_n cx.x cx.b dX11_night_24 rfl (lv_at hl 2 rfl) ?_
      refine gt_f (v := .int (nI (s_n ((niI mi σ (s_n σ)).2)))) cx hw 0 (mw_h ((niI mi σ (s_n σ)).2) 0 (nfl mi σ fl (s_n σ)) dv) rfl inX11 1 (by decide) tw_758 ⟨rfl, rfl, Or.inl rfl⟩ rfl dX11_night_25 ?_
      refine lv_icmp_ge (tgt := 60) cx.x cx.b dX11_night_28 (by decide) (fun hb28 => ?_) (fun hb28 => absurd (by rw [(niI_geo mi σ (s_n σ)).1]; exact nI_le (Nat.le_refl _) (by omega)) hb28)
      refine lv_iload_n cx.x cx.b dX11_night_60 rfl (lv_at hl 1 rfl) ?_
      exact ret_i ((niI mi σ (s_n σ)).2, 0, nfl mi σ fl (s_n σ), dv) cx hw (okM_0 (by unfold aNight; rw [if_pos hm, niI_n hN9])) dX11_night_61 (Nat.le_of_ble_eq_true rfl) (Nat.le_of_ble_eq_true rfl)
    · refine lv_iload_n cx.x cx.b dX11_night_23 rfl (lv_at hl 0 rfl) ?_
      refine lv_aload_n cx.x cx.b dX11_night_24 rfl (lv_at hl 2 rfl) ?_
      refine gt_f (v := .int (nI (s_n ((niI mi σ j).2)))) cx hw 0 (mw_h ((niI mi σ j).2) 0 (nfl mi σ fl j) dv) rfl inX11 1 (by decide) tw_758 ⟨rfl, rfl, Or.inl rfl⟩ rfl dX11_night_25 ?_
      refine lv_icmp_ge (tgt := 60) cx.x cx.b dX11_night_28 (by decide) (fun hb28 => absurd hb28 (by rw [(niI_geo mi σ j).1]; exact nI_ge hj (by omega))) (fun hb28 => ?_)
      have hg := niI_geo mi σ j
      have hS := (ste_niI mi σ j).2.2.2
      simp only [niI, nfl] at kk
      generalize niI mi σ j = π at hw hl kk hg hS ⊢
      generalize nfl mi σ fl j = fw at hw
      have hn9 : j < s_n π.2 := by rw [hg.1]; exact hj
      have hd : s_k π.2 j < 8 := by rw [hg.2.1]; exact hI.k hj
      have hi : j < 20 := by omega
      have hb7 : s_N π.2 + 4 < 2 ^ 30 := by omega
      rw [niS_p hn9] at kk
      refine lv_aload_n cx.x cx.b dX11_night_31 rfl (lv_at hl 2 rfl) ?_
      refine lv_iload_n cx.x cx.b dX11_night_32 rfl (lv_at hl 0 rfl) ?_
      refine lv_iload_n cx.x cx.b dX11_night_33 rfl (lv_at hl 3 rfl) ?_
      refine cgo_i cx hw (rV_i (q0 := 0) (n := 2) (As := [.int (nI j), .int mi]) (rest := []) cx hw (c_X11_rests l D M Q (π.2) 0 fw dv j hi hb7 hd mi) (gd_V tw_839 tw_841 ts_8 tw_4 tw_842) rfl ⟨by decide +kernel, rfl, hl.1, (Nat.le_of_ble_eq_true rfl), ⟨(Nat.le_of_ble_eq_true rfl), (Nat.le_of_ble_eq_true rfl)⟩, ⟨(Nat.le_of_ble_eq_true rfl), (Nat.le_of_ble_eq_true rfl)⟩, rfl, rfl⟩ rfl (mw_h (π.2) 0 fw dv) rfl dX11_night_34) (fun r u H locs hp hw => ?_)
      obtain ⟨h8, h9⟩ := hp
      have h8 := h8.symm
      have h9 := h9.symm
      subst h8
      subst h9
      refine lv_istore (lv' := [(4, .int (s_F (rRest (s_k π.2 j) j mi π.2) 4 j)), (3, .int (nI j)), (2, .int (π.1)), (0, .ref (M 0)), (1, .int mi)]) cx.x cx.b dX11_night_37 hl (by decide) rfl (fun ls hl => ?_)
      refine lv_iload_n cx.x cx.b dX11_night_39 rfl (lv_at hl 2 rfl) ?_
      refine lv_aload_n cx.x cx.b dX11_night_40 rfl (lv_at hl 3 rfl) ?_
      refine gt_f (v := .int (b01 (fRest (s_k π.2 j) j mi π.2))) cx hw 0 (mw_h (rRest (s_k π.2 j) j mi π.2) 0 (b01 (fRest (s_k π.2 j) j mi π.2)) dv) rfl inX11 15 (by decide) tw_772 ⟨rfl, rfl, Or.inl rfl⟩ rfl dX11_night_41 ?_
      refine lv_if_eq (tgt := 51) cx.x cx.b dX11_night_44 (by decide) (fun hb44 => ?_) (fun hb44 => ?_)
      · refine lv_iconst (v := 0) cx.x cx.b dX11_night_51 (by decide) ?_
        refine lv_iadd cx.x cx.b dX11_night_52 ?_
        refine lv_istore_n (lv' := [(2, .int ((π.1) + 0)), (4, .int (s_F (rRest (s_k π.2 j) j mi π.2) 4 j)), (3, .int (nI j)), (0, .ref (M 0)), (1, .int mi)]) cx.x cx.b dX11_night_53 rfl hl (by decide) rfl (fun ls hl => ?_)
        refine lv_iinc (v := ((nI j) + 1)) (lv' := [(3, .int ((nI j) + 1)), (2, .int ((π.1) + 0)), (4, .int (s_F (rRest (s_k π.2 j) j mi π.2) 4 j)), (0, .ref (M 0)), (1, .int mi)]) cx.x cx.b dX11_night_54 hl (k := 2) rfl rfl (by decide) rfl (fun ls hl => ?_)
        refine lv_goto (tgt := 23) cx.x cx.b dX11_night_57 (by decide) ?_
        rw [nI_1, Int32.add_zero] at hl
        exact kk H locs ls ⟨hw, by rw [hb44, Int32.add_zero]; exact lv_sub hl [0, 1, 3, 4] rfl⟩
      · refine lv_iconst (v := 1) cx.x cx.b dX11_night_47 (by decide) ?_
        refine lv_goto (tgt := 52) cx.x cx.b dX11_night_48 (by decide) ?_
        refine lv_iadd cx.x cx.b dX11_night_52 ?_
        refine lv_istore_n (lv' := [(2, .int ((π.1) + 1)), (4, .int (s_F (rRest (s_k π.2 j) j mi π.2) 4 j)), (3, .int (nI j)), (0, .ref (M 0)), (1, .int mi)]) cx.x cx.b dX11_night_53 rfl hl (by decide) rfl (fun ls hl => ?_)
        refine lv_iinc (v := ((nI j) + 1)) (lv' := [(3, .int ((nI j) + 1)), (2, .int ((π.1) + 1)), (4, .int (s_F (rRest (s_k π.2 j) j mi π.2) 4 j)), (0, .ref (M 0)), (1, .int mi)]) cx.x cx.b dX11_night_54 hl (k := 2) rfl rfl (by decide) rfl (fun ls hl => ?_)
        refine lv_goto (tgt := 23) cx.x cx.b dX11_night_57 (by decide) ?_
        rw [nI_1] at hl
        exact kk H locs ls ⟨hw, by rw [b01_or.resolve_left hb44]; exact lv_sub hl [0, 1, 3, 4] rfl⟩
  · refine lv_aload_n cx.x cx.b dX11_night_0 rfl (lv_at hl 0 rfl) ?_
    refine lv_iconst (v := 0) cx.x cx.b dX11_night_1 (by decide) ?_
    refine pt_f cx hw 0 (mw_h σ th fl dv) rfl inX11 tyX11 tyX11_ok nmX11 0 (by decide) tw_757 ⟨rfl, rfl, Or.inl rfl⟩ rfl rfl rfl rfl (Nat.le_of_ble_eq_true rfl) dX11_night_2 (w1 := mw M Q (σ, 0, fl, dv)) mw_p0 (fun H locs hw => ?_)
    refine lv_iload_n cx.x cx.b dX11_night_5 rfl (lv_at hl 1 rfl) ?_
    refine lv_iconst (v := 0) cx.x cx.b dX11_night_6 (by decide) ?_
    refine lv_sipush (v := 600) cx.x cx.b dX11_night_7 (by decide) ?_
    refine cgo_i cx hw (rS_i (n := 3) (As := [.int mi, .int 0, .int 600]) (rest := []) cx hw (c_X11_within l D M Q σ 0 fl dv mi 0 600) (gd_S tw_817 tw_818 tw_4 tw_819) ⟨by decide +kernel, rfl, hl.1, (Nat.le_of_ble_eq_true rfl), ⟨(Nat.le_of_ble_eq_true rfl), (Nat.le_of_ble_eq_true rfl)⟩, ⟨(Nat.le_of_ble_eq_true rfl), (Nat.le_of_ble_eq_true rfl)⟩, rfl, rfl⟩ rfl dX11_night_10) (fun r u H locs hp hw => ?_)
    obtain ⟨h8, h9⟩ := hp
    have h8 := h8.symm
    have h9 := h9.symm
    subst h8
    subst h9
    refine lv_if_ne (tgt := 19) cx.x cx.b dX11_night_13 (by decide) (fun hb13 => absurd (wth_eq0.mpr hm) hb13) (fun hb13 => ?_)
    refine lv_bipush (v := (-102)) cx.x cx.b dX11_night_16 (by decide) ?_
    exact ret_i (σ, 0, fl, dv) cx hw (okM_0 (by unfold aNight; rw [if_neg hm])) dX11_night_18 (Nat.le_of_ble_eq_true rfl) (Nat.le_of_ble_eq_true rfl)
set_option maxHeartbeats 4000000 in
set_option maxRecDepth 100000 in
theorem c_X11_fire (l : Launch) (D : va_G) (M : Nat → Nat) (Q : Nat → ClassId) (σ : St) (th fl dv : Int32) {b : Nat} (hI : Inv (b + 100) σ) (ht : Int32) : MI l yX11_fire cX11_fire 6 .int ({ frames := 3, cells := 0, slots := 0, locals := 67 }) D cls (tyl Q) [.ref (M 0), .int ht] (mw M Q) (mw M Q (σ, th, fl, dv)) (okM (aFire σ ht)) 0 0 := by
  refine MI_of (by decide) (Nat.le_of_ble_eq_true rfl) ?_
  intro p e s m args below meth c A ls cx hw hl
  have hl : lv_has ls 6 [(0, .ref (M 0)), (1, .int ht)] := hl
  have hN9 := hI.n
  have hb9 : s_N σ + 100 < 2 ^ 30 := by have := hI.2.2.2.2.1; omega
  by_cases hm : w400 ht
  · refine lv_aload_n cx.x cx.b dX11_fire_0 rfl (lv_at hl 0 rfl) ?_
    refine lv_iconst (v := 0) cx.x cx.b dX11_fire_1 (by decide) ?_
    refine pt_f cx hw 0 (mw_h σ th fl dv) rfl inX11 tyX11 tyX11_ok nmX11 0 (by decide) tw_757 ⟨rfl, rfl, Or.inl rfl⟩ rfl rfl rfl rfl (Nat.le_of_ble_eq_true rfl) dX11_fire_2 (w1 := mw M Q (σ, 0, fl, dv)) mw_p0 (fun H locs hw => ?_)
    refine lv_iload_n cx.x cx.b dX11_fire_5 rfl (lv_at hl 1 rfl) ?_
    refine lv_iconst (v := 0) cx.x cx.b dX11_fire_6 (by decide) ?_
    refine lv_sipush (v := 400) cx.x cx.b dX11_fire_7 (by decide) ?_
    refine cgo_i cx hw (rS_i (n := 3) (As := [.int ht, .int 0, .int 400]) (rest := []) cx hw (c_X11_within l D M Q σ 0 fl dv ht 0 400) (gd_S tw_817 tw_818 tw_4 tw_819) ⟨by decide +kernel, rfl, hl.1, (Nat.le_of_ble_eq_true rfl), ⟨(Nat.le_of_ble_eq_true rfl), (Nat.le_of_ble_eq_true rfl)⟩, ⟨(Nat.le_of_ble_eq_true rfl), (Nat.le_of_ble_eq_true rfl)⟩, rfl, rfl⟩ rfl dX11_fire_10) (fun r u H locs hp hw => ?_)
    obtain ⟨h8, h9⟩ := hp
    have h8 := h8.symm
    have h9 := h9.symm
    subst h8
    subst h9
    refine lv_if_ne (tgt := 19) cx.x cx.b dX11_fire_13 (by decide) (fun hb13 => ?_) (fun hb13 => absurd hb13 (by rw [wth_eq0]; exact fun h => h hm))
    refine lv_iconst (v := 0) cx.x cx.b dX11_fire_19 (by decide) ?_
    refine lv_istore_n (lv' := [(2, .int 0), (0, .ref (M 0)), (1, .int ht)]) cx.x cx.b dX11_fire_20 rfl hl (by decide) rfl (fun ls hl => ?_)
    refine lv_iconst (v := 0) cx.x cx.b dX11_fire_21 (by decide) ?_
    refine lv_istore_n (lv' := [(3, .int 0), (2, .int 0), (0, .ref (M 0)), (1, .int ht)]) cx.x cx.b dX11_fire_22 rfl hl (by decide) rfl (fun ls hl => ?_)
    refine loopN 4 (fun _ => 0) (fun _ => 0) (fun k H locs ls => Wd D cls A s H locs (mw M Q ((fiI ht σ k).2, 0, fl, dv)) ∧ lv_has ls 6 [(3, .int (nI k)), (2, .int ((fiI ht σ k).1)), (0, .ref (M 0)), (1, .int ht)]) ⟨hw, hl⟩ (fun H locs ls ⟨hw, hl⟩ => ?_) (fun k hk H locs ls ⟨hw, hl⟩ kk => ?_)
    · refine lv_iload_n cx.x cx.b dX11_fire_23 rfl (lv_at hl 0 rfl) ?_
      refine lv_iconst (v := 4) cx.x cx.b dX11_fire_24 (by decide) ?_
      refine lv_icmp_ge (tgt := 92) cx.x cx.b dX11_fire_25 (by decide) (fun hb25 => ?_) (fun hb25 => absurd (by decide) hb25)
      refine lv_iload_n cx.x cx.b dX11_fire_92 rfl (lv_at hl 1 rfl) ?_
      exact ret_i ((fiI ht σ 4).2, 0, fl, dv) cx hw (okM_0 (by unfold aFire; rw [if_pos hm])) dX11_fire_93 (Nat.le_of_ble_eq_true rfl) (Nat.le_of_ble_eq_true rfl)
    · refine lv_iload_n cx.x cx.b dX11_fire_23 rfl (lv_at hl 0 rfl) ?_
      refine lv_iconst (v := 4) cx.x cx.b dX11_fire_24 (by decide) ?_
      refine lv_icmp_ge (tgt := 92) cx.x cx.b dX11_fire_25 (by decide) (fun hb25 => absurd hb25 (nI_ge (b := 4) hk (by decide))) (fun hb25 => ?_)
      have hzk : okZ (s_z (fiI ht σ k).2 k) := by rw [(ste_fiI ht σ k).2.1]; exact hI.2.2.1 k hk
      rw [fiI_s hzk] at kk
      refine lv_iconst (v := 0) cx.x cx.b dX11_fire_28 (by decide) ?_
      refine lv_istore (lv' := [(4, .int 0), (3, .int (nI k)), (2, .int ((fiI ht σ k).1)), (0, .ref (M 0)), (1, .int ht)]) cx.x cx.b dX11_fire_29 hl (by decide) rfl (fun ls hl => ?_)
      refine loopN (zc (s_z (fiI ht σ k).2 k)) (fun _ => 0) (fun _ => 0) (fun j H locs ls => Wd D cls A s H locs (mw M Q ((bkI k ht (0, (fiI ht σ k).2) j).2, 0, fl, dv)) ∧ lv_has ls 6 [(4, .int (nI j)), (2, .int ((fiI ht σ k).1 + (bkI k ht (0, (fiI ht σ k).2) j).1)), (3, .int (nI k)), (0, .ref (M 0)), (1, .int ht)]) ⟨hw, (by rw [show (fiI ht σ k).1 = (fiI ht σ k).1 + (bkI k ht (0, (fiI ht σ k).2) 0).1 from (Int32.add_zero _).symm] at hl; exact lv_sub hl [0, 2, 1, 3, 4] rfl)⟩ (fun H locs ls ⟨hw, hl⟩ => ?_) (fun j hj H locs ls ⟨hw, hl⟩ kk2 => ?_)
      · refine lv_iload cx.x cx.b dX11_fire_31 (lv_at hl 0 rfl) ?_
        refine lv_aload_n cx.x cx.b dX11_fire_33 rfl (lv_at hl 3 rfl) ?_
        refine gt_f (v := .ref (M 7)) cx hw 0 (mw_h ((bkI k ht (0, (fiI ht σ k).2) (zc (s_z (fiI ht σ k).2 k))).2) 0 fl dv) rfl inX11 8 (by decide) tw_765 ⟨rfl, rfl, Or.inl rfl⟩ rfl dX11_fire_34 ?_
        refine lv_iload_n cx.x cx.b dX11_fire_37 rfl (lv_at hl 2 rfl) ?_
        refine ald_i (f := (s_z ((bkI k ht (0, (fiI ht σ k).2) (zc (s_z (fiI ht σ k).2 k))).2))) cx hw 7 0 rfl rfl k rfl hk (by decide) dX11_fire_38 ?_
        refine lv_icmp_ge (tgt := 86) cx.x cx.b dX11_fire_39 (by decide) (fun hb39 => ?_) (fun hb39 => absurd (by rw [(ste_bkI k ht (0, (fiI ht σ k).2) _).2.1]; exact zc_out hzk) hb39)
        refine lv_iinc (v := ((nI k) + 1)) (lv' := [(3, .int ((nI k) + 1)), (4, .int (nI (zc (s_z (fiI ht σ k).2 k)))), (2, .int ((fiI ht σ k).1 + (bkI k ht (0, (fiI ht σ k).2) (zc (s_z (fiI ht σ k).2 k))).1)), (0, .ref (M 0)), (1, .int ht)]) cx.x cx.b dX11_fire_86 hl (k := 2) rfl rfl (by decide) rfl (fun ls hl => ?_)
        refine lv_goto (tgt := 23) cx.x cx.b dX11_fire_89 (by decide) ?_
        rw [nI_1] at hl
        exact kk H locs ls ⟨hw, lv_sub hl [0, 2, 3, 4] rfl⟩
      · refine lv_iload cx.x cx.b dX11_fire_31 (lv_at hl 0 rfl) ?_
        refine lv_aload_n cx.x cx.b dX11_fire_33 rfl (lv_at hl 3 rfl) ?_
        refine gt_f (v := .ref (M 7)) cx hw 0 (mw_h ((bkI k ht (0, (fiI ht σ k).2) j).2) 0 fl dv) rfl inX11 8 (by decide) tw_765 ⟨rfl, rfl, Or.inl rfl⟩ rfl dX11_fire_34 ?_
        refine lv_iload_n cx.x cx.b dX11_fire_37 rfl (lv_at hl 2 rfl) ?_
        refine ald_i (f := (s_z ((bkI k ht (0, (fiI ht σ k).2) j).2))) cx hw 7 0 rfl rfl k rfl hk (by decide) dX11_fire_38 ?_
        refine lv_icmp_ge (tgt := 86) cx.x cx.b dX11_fire_39 (by decide) (fun hb39 => absurd hb39 (by rw [(ste_bkI k ht (0, (fiI ht σ k).2) j).2.1]; exact zc_in hzk hj)) (fun hb39 => ?_)
        refine lv_aload_n cx.x cx.b dX11_fire_42 rfl (lv_at hl 3 rfl) ?_
        refine gt_f (v := .ref (M 8)) cx hw 0 (mw_h ((bkI k ht (0, (fiI ht σ k).2) j).2) 0 fl dv) rfl inX11 9 (by decide) tw_766 ⟨rfl, rfl, Or.inl rfl⟩ rfl dX11_fire_43 ?_
        refine lv_bipush (v := 8) cx.x cx.b dX11_fire_46 (by decide) ?_
        refine lv_iload_n cx.x cx.b dX11_fire_48 rfl (lv_at hl 2 rfl) ?_
        refine lv_imul cx.x cx.b dX11_fire_49 ?_
        refine lv_iload cx.x cx.b dX11_fire_50 (lv_at hl 0 rfl) ?_
        refine lv_iadd cx.x cx.b dX11_fire_52 ?_
        refine ald_i (f := (fun x9 => s_r ((bkI k ht (0, (fiI ht σ k).2) j).2) (x9 / 8) (x9 % 8))) cx hw 8 0 rfl rfl (8 * k + j) i8 (by have := zc_le hzk; omega) (by decide) dX11_fire_53 ?_
        have hj8 := zc_le hzk
        rw [(d8 (by omega : j < 8)).1, (d8 (by omega : j < 8)).2]
        have hS := (ste_bkI k ht (0, (fiI ht σ k).2) j).tr Ste.rf (b := 0)
        have hS0 := ste_fiI ht σ k
        have hlf := lfAt_in (σ := (bkI k ht (0, (fiI ht σ k).2) j).2) (k := k) (j := j) (by rw [hS.2.1]; exact hzk) (by rw [hS.2.1]; exact hj)
        have hrw := hI.2.2.2.2.2.1 k hk j (by omega) (fun e => by have h9 := hj; rw [hS0.2.1, e] at h9; exact absurd h9 (Nat.not_lt_zero _))
        rw [← hS0.2.2.1, ← hS.2.2.1, ← hS0.1.1, ← hS.1.1] at hrw
        have hb7 : s_N (bkI k ht (0, (fiI ht σ k).2) j).2 + 3 < 2 ^ 30 := by have h1 := hS.2.2.2; have h2 := hS0.2.2.2; dsimp only at h1; omega
        have hN8 : s_n (bkI k ht (0, (fiI ht σ k).2) j).2 ≤ 20 := (hS.1.tr hS0.1).N hN9
        have hK8 : ∀ i, i < s_n (bkI k ht (0, (fiI ht σ k).2) j).2 → s_k (bkI k ht (0, (fiI ht σ k).2) j).2 i < 8 := (hS.1.tr hS0.1).K (fun i h => hI.k h)
        simp only [bkI] at kk2
        generalize bkI k ht (0, (fiI ht σ k).2) j = π at hw hl kk2 hlf hrw hb7 hN8 hK8 ⊢
        rcases hrw with hr | ⟨i, hn, hr⟩
        · rw [hr]
          rw [bkS_n (by rw [hlf, hr]; exact fun h => absurd h.1 (by decide))] at kk2
          refine lv_istore (lv' := [(5, .int (-1)), (4, .int (nI j)), (2, .int ((fiI ht σ k).1 + π.1)), (3, .int (nI k)), (0, .ref (M 0)), (1, .int ht)]) cx.x cx.b dX11_fire_54 hl (by decide) rfl (fun ls hl => ?_)
          refine lv_iload_n cx.x cx.b dX11_fire_56 rfl (lv_at hl 2 rfl) ?_
          refine lv_iload cx.x cx.b dX11_fire_57 (lv_at hl 0 rfl) ?_
          refine lv_iconst (v := (-1)) cx.x cx.b dX11_fire_59 (by decide) ?_
          refine lv_icmp_eq (tgt := 77) cx.x cx.b dX11_fire_60 (by decide) (fun hb60 => ?_) (fun hb60 => absurd rfl hb60)
          refine lv_iconst (v := 0) cx.x cx.b dX11_fire_77 (by decide) ?_
          refine lv_iadd cx.x cx.b dX11_fire_78 ?_
          refine lv_istore_n (lv' := [(2, .int (((fiI ht σ k).1 + π.1) + 0)), (5, .int (-1)), (4, .int (nI j)), (3, .int (nI k)), (0, .ref (M 0)), (1, .int ht)]) cx.x cx.b dX11_fire_79 rfl hl (by decide) rfl (fun ls hl => ?_)
          refine lv_iinc (v := ((nI j) + 1)) (lv' := [(4, .int ((nI j) + 1)), (2, .int (((fiI ht σ k).1 + π.1) + 0)), (5, .int (-1)), (3, .int (nI k)), (0, .ref (M 0)), (1, .int ht)]) cx.x cx.b dX11_fire_80 hl (k := 2) rfl rfl (by decide) rfl (fun ls hl => ?_)
          refine lv_goto (tgt := 31) cx.x cx.b dX11_fire_83 (by decide) ?_
          rw [nI_1, Int32.add_zero] at hl
          exact kk2 H locs ls ⟨hw, lv_sub hl [0, 1, 3, 4, 5] rfl⟩
        · have hd := hK8 i hn
          have hi : i < 20 := by omega
          rw [hr]
          rw [bkS_p (by rw [hlf, hr]; exact (okL_iff hN8).mpr (vp_in_nI hn (by omega))) (hlf.trans hr) (cl20 hN8 hn)] at kk2
          refine lv_istore (lv' := [(5, .int (nI i)), (4, .int (nI j)), (2, .int ((fiI ht σ k).1 + π.1)), (3, .int (nI k)), (0, .ref (M 0)), (1, .int ht)]) cx.x cx.b dX11_fire_54 hl (by decide) rfl (fun ls hl => ?_)
          refine lv_iload_n cx.x cx.b dX11_fire_56 rfl (lv_at hl 2 rfl) ?_
          refine lv_iload cx.x cx.b dX11_fire_57 (lv_at hl 0 rfl) ?_
          refine lv_iconst (v := (-1)) cx.x cx.b dX11_fire_59 (by decide) ?_
          refine lv_icmp_eq (tgt := 77) cx.x cx.b dX11_fire_60 (by decide) (fun hb60 => absurd hb60.symm (nI_nm (by omega))) (fun hb60 => ?_)
          refine lv_aload_n cx.x cx.b dX11_fire_63 rfl (lv_at hl 4 rfl) ?_
          refine lv_iload cx.x cx.b dX11_fire_64 (lv_at hl 0 rfl) ?_
          refine lv_iload_n cx.x cx.b dX11_fire_66 rfl (lv_at hl 5 rfl) ?_
          refine cgo_i cx hw (rV_i (q0 := 0) (n := 2) (As := [.int (nI i), .int ht]) (rest := [.int ((fiI ht σ k).1 + π.1)]) cx hw (c_X11_bakes l D M Q (π.2) 0 fl dv i hi hb7 hd ht) (gd_V tw_887 tw_889 ts_17 tw_4 tw_890) rfl ⟨by decide +kernel, rfl, hl.1, (Nat.le_of_ble_eq_true rfl), ⟨(Nat.le_of_ble_eq_true rfl), (Nat.le_of_ble_eq_true rfl)⟩, ⟨(Nat.le_of_ble_eq_true rfl), (Nat.le_of_ble_eq_true rfl)⟩, rfl, rfl⟩ rfl (mw_h (π.2) 0 fl dv) rfl dX11_fire_67) (fun r u H locs hp hw => ?_)
          obtain ⟨h8, h9⟩ := hp
          have h8 := h8.symm
          have h9 := h9.symm
          subst h8
          subst h9
          refine lv_if_eq (tgt := 77) cx.x cx.b dX11_fire_70 (by decide) (fun hb70 => ?_) (fun hb70 => ?_)
          · refine lv_iconst (v := 0) cx.x cx.b dX11_fire_77 (by decide) ?_
            refine lv_iadd cx.x cx.b dX11_fire_78 ?_
            refine lv_istore_n (lv' := [(2, .int (((fiI ht σ k).1 + π.1) + 0)), (5, .int (nI i)), (4, .int (nI j)), (3, .int (nI k)), (0, .ref (M 0)), (1, .int ht)]) cx.x cx.b dX11_fire_79 rfl hl (by decide) rfl (fun ls hl => ?_)
            refine lv_iinc (v := ((nI j) + 1)) (lv' := [(4, .int ((nI j) + 1)), (2, .int (((fiI ht σ k).1 + π.1) + 0)), (5, .int (nI i)), (3, .int (nI k)), (0, .ref (M 0)), (1, .int ht)]) cx.x cx.b dX11_fire_80 hl (k := 2) rfl rfl (by decide) rfl (fun ls hl => ?_)
            refine lv_goto (tgt := 31) cx.x cx.b dX11_fire_83 (by decide) ?_
            rw [nI_1, Int32.add_zero] at hl
            exact kk2 H locs ls ⟨hw, by rw [hb70, Int32.add_zero]; exact lv_sub hl [0, 1, 3, 4, 5] rfl⟩
          · refine lv_iconst (v := 1) cx.x cx.b dX11_fire_73 (by decide) ?_
            refine lv_goto (tgt := 78) cx.x cx.b dX11_fire_74 (by decide) ?_
            refine lv_iadd cx.x cx.b dX11_fire_78 ?_
            refine lv_istore_n (lv' := [(2, .int (((fiI ht σ k).1 + π.1) + 1)), (5, .int (nI i)), (4, .int (nI j)), (3, .int (nI k)), (0, .ref (M 0)), (1, .int ht)]) cx.x cx.b dX11_fire_79 rfl hl (by decide) rfl (fun ls hl => ?_)
            refine lv_iinc (v := ((nI j) + 1)) (lv' := [(4, .int ((nI j) + 1)), (2, .int (((fiI ht σ k).1 + π.1) + 1)), (5, .int (nI i)), (3, .int (nI k)), (0, .ref (M 0)), (1, .int ht)]) cx.x cx.b dX11_fire_80 hl (k := 2) rfl rfl (by decide) rfl (fun ls hl => ?_)
            refine lv_goto (tgt := 31) cx.x cx.b dX11_fire_83 (by decide) ?_
            rw [nI_1, Int32.add_assoc] at hl
            exact kk2 H locs ls ⟨hw, by rw [vBake_or.resolve_left hb70]; exact lv_sub hl [0, 1, 3, 4, 5] rfl⟩
  · refine lv_aload_n cx.x cx.b dX11_fire_0 rfl (lv_at hl 0 rfl) ?_
    refine lv_iconst (v := 0) cx.x cx.b dX11_fire_1 (by decide) ?_
    refine pt_f cx hw 0 (mw_h σ th fl dv) rfl inX11 tyX11 tyX11_ok nmX11 0 (by decide) tw_757 ⟨rfl, rfl, Or.inl rfl⟩ rfl rfl rfl rfl (Nat.le_of_ble_eq_true rfl) dX11_fire_2 (w1 := mw M Q (σ, 0, fl, dv)) mw_p0 (fun H locs hw => ?_)
    refine lv_iload_n cx.x cx.b dX11_fire_5 rfl (lv_at hl 1 rfl) ?_
    refine lv_iconst (v := 0) cx.x cx.b dX11_fire_6 (by decide) ?_
    refine lv_sipush (v := 400) cx.x cx.b dX11_fire_7 (by decide) ?_
    refine cgo_i cx hw (rS_i (n := 3) (As := [.int ht, .int 0, .int 400]) (rest := []) cx hw (c_X11_within l D M Q σ 0 fl dv ht 0 400) (gd_S tw_817 tw_818 tw_4 tw_819) ⟨by decide +kernel, rfl, hl.1, (Nat.le_of_ble_eq_true rfl), ⟨(Nat.le_of_ble_eq_true rfl), (Nat.le_of_ble_eq_true rfl)⟩, ⟨(Nat.le_of_ble_eq_true rfl), (Nat.le_of_ble_eq_true rfl)⟩, rfl, rfl⟩ rfl dX11_fire_10) (fun r u H locs hp hw => ?_)
    obtain ⟨h8, h9⟩ := hp
    have h8 := h8.symm
    have h9 := h9.symm
    subst h8
    subst h9
    refine lv_if_ne (tgt := 19) cx.x cx.b dX11_fire_13 (by decide) (fun hb13 => absurd (wth_eq0.mpr hm) hb13) (fun hb13 => ?_)
    refine lv_bipush (v := (-102)) cx.x cx.b dX11_fire_16 (by decide) ?_
    exact ret_i (σ, 0, fl, dv) cx hw (okM_0 (by unfold aFire; rw [if_neg hm])) dX11_fire_18 (Nat.le_of_ble_eq_true rfl) (Nat.le_of_ble_eq_true rfl)
