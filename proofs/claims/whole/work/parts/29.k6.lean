theorem aAt_e {σ : St} {k j : Nat} (hk : k < 4) (hj : j < 8) : aAt σ (nI k) (nI j) = (lfAt σ k j, 0, σ) := by
  unfold aAt; rw [if_pos (okS_iff.mpr (vp_in_nI hk (by omega))), cl4 hk, lfAt_c hj]
set_option maxHeartbeats 4000000 in
set_option maxRecDepth 100000 in
theorem c_X10_placesOfLoaf (l : Launch) (D : va_G) (G : Nat → Nat) (Q : Nat → ClassId) (σ : St) (lo : Int32) : MI l yX10_placesOfLoaf cX10_placesOfLoaf 5 .int ({ frames := 3, cells := 0, slots := 0, locals := 66 }) D cls (tyl Q) [.ref (G 0), .int lo] (kw G Q) (kw G Q σ) (fun r u => r = pO σ lo 4 ∧ u = σ) 0 0 := by
  refine MI_of (by decide) (Nat.le_of_ble_eq_true rfl) ?_
  intro p e s m args below meth c A ls cx hw hl
  have hl : lv_has ls 5 [(0, .ref (G 0)), (1, .int lo)] := hl
  refine lv_iconst (v := 0) cx.x cx.b dX10_placesOfLoaf_0 (by decide) ?_
  refine lv_istore_n (lv' := [(2, .int 0), (0, .ref (G 0)), (1, .int lo)]) cx.x cx.b dX10_placesOfLoaf_1 rfl hl (by decide) rfl (fun ls hl => ?_)
  refine lv_iconst (v := 0) cx.x cx.b dX10_placesOfLoaf_2 (by decide) ?_
  refine lv_istore_n (lv' := [(3, .int 0), (2, .int 0), (0, .ref (G 0)), (1, .int lo)]) cx.x cx.b dX10_placesOfLoaf_3 rfl hl (by decide) rfl (fun ls hl => ?_)
  refine loopN 4 (fun _ => 0) (fun _ => 0) (fun k H locs ls => Wd D cls A s H locs (kw G Q σ) ∧ lv_has ls 5 [(3, .int (nI k)), (2, .int (pO σ lo k)), (0, .ref (G 0)), (1, .int lo)]) ⟨hw, hl⟩ (fun H locs ls ⟨hw, hl⟩ => ?_) (fun k hk H locs ls ⟨hw, hl⟩ kk => ?_)
  · refine lv_iload_n cx.x cx.b dX10_placesOfLoaf_4 rfl (lv_at hl 0 rfl) ?_
    refine lv_iconst (v := 4) cx.x cx.b dX10_placesOfLoaf_5 (by decide) ?_
    refine lv_icmp_ge (tgt := 45) cx.x cx.b dX10_placesOfLoaf_6 (by decide) (fun hb6 => ?_) (fun hb6 => absurd (by decide) hb6)
    refine lv_iload_n cx.x cx.b dX10_placesOfLoaf_45 rfl (lv_at hl 1 rfl) ?_
    exact ret_i σ cx hw ⟨rfl, rfl⟩ dX10_placesOfLoaf_46 (Nat.le_of_ble_eq_true rfl) (Nat.le_of_ble_eq_true rfl)
  · refine lv_iload_n cx.x cx.b dX10_placesOfLoaf_4 rfl (lv_at hl 0 rfl) ?_
    refine lv_iconst (v := 4) cx.x cx.b dX10_placesOfLoaf_5 (by decide) ?_
    refine lv_icmp_ge (tgt := 45) cx.x cx.b dX10_placesOfLoaf_6 (by decide) (fun hb6 => absurd hb6 (nI_ge (b := 4) hk (by decide))) (fun hb6 => ?_)
    refine lv_iconst (v := 0) cx.x cx.b dX10_placesOfLoaf_9 (by decide) ?_
    refine lv_istore (lv' := [(4, .int 0), (3, .int (nI k)), (2, .int (pO σ lo k)), (0, .ref (G 0)), (1, .int lo)]) cx.x cx.b dX10_placesOfLoaf_10 hl (by decide) rfl (fun ls hl => ?_)
    refine loopN 8 (fun _ => 0) (fun _ => 0) (fun j H locs ls => Wd D cls A s H locs (kw G Q σ) ∧ lv_has ls 5 [(4, .int (nI j)), (2, .int (pO σ lo k + tO σ k lo j)), (3, .int (nI k)), (0, .ref (G 0)), (1, .int lo)]) ⟨hw, (by rw [show pO σ lo k = pO σ lo k + tO σ k lo 0 from (Int32.add_zero _).symm] at hl; exact lv_sub hl [0, 2, 1, 3, 4] rfl)⟩ (fun H locs ls ⟨hw, hl⟩ => ?_) (fun j hj H locs ls ⟨hw, hl⟩ kk2 => ?_)
    · refine lv_iload cx.x cx.b dX10_placesOfLoaf_12 (lv_at hl 0 rfl) ?_
      refine lv_bipush (v := 8) cx.x cx.b dX10_placesOfLoaf_14 (by decide) ?_
      refine lv_icmp_ge (tgt := 39) cx.x cx.b dX10_placesOfLoaf_16 (by decide) (fun hb16 => ?_) (fun hb16 => absurd (by decide) hb16)
      refine lv_iinc (v := ((nI k) + 1)) (lv' := [(3, .int ((nI k) + 1)), (4, .int (nI 8)), (2, .int (pO σ lo k + tO σ k lo 8)), (0, .ref (G 0)), (1, .int lo)]) cx.x cx.b dX10_placesOfLoaf_39 hl (k := 2) rfl rfl (by decide) rfl (fun ls hl => ?_)
      refine lv_goto (tgt := 4) cx.x cx.b dX10_placesOfLoaf_42 (by decide) ?_
      rw [nI_1] at hl
      exact kk H locs ls ⟨hw, lv_sub hl [0, 2, 3, 4] rfl⟩
    · refine lv_iload cx.x cx.b dX10_placesOfLoaf_12 (lv_at hl 0 rfl) ?_
      refine lv_bipush (v := 8) cx.x cx.b dX10_placesOfLoaf_14 (by decide) ?_
      refine lv_icmp_ge (tgt := 39) cx.x cx.b dX10_placesOfLoaf_16 (by decide) (fun hb16 => absurd hb16 (nI_ge hj (by decide))) (fun hb16 => ?_)
      refine lv_aload_n cx.x cx.b dX10_placesOfLoaf_19 rfl (lv_at hl 3 rfl) ?_
      refine lv_iload_n cx.x cx.b dX10_placesOfLoaf_20 rfl (lv_at hl 2 rfl) ?_
      refine lv_iload cx.x cx.b dX10_placesOfLoaf_21 (lv_at hl 0 rfl) ?_
      refine cgo_i cx hw (rV_i (q0 := 0) (n := 2) (As := [.int (nI k), .int (nI j)]) (rest := []) cx hw (c_X10_at l D G Q σ (nI k) (nI j)) (gd_V tw_382 tw_383 tw_384 tw_1 tw_385) rfl ⟨by decide +kernel, rfl, hl.1, (Nat.le_of_ble_eq_true rfl), ⟨(Nat.le_of_ble_eq_true rfl), (Nat.le_of_ble_eq_true rfl)⟩, ⟨(Nat.le_of_ble_eq_true rfl), (Nat.le_of_ble_eq_true rfl)⟩, rfl, rfl⟩ rfl (kw_h σ) rfl dX10_placesOfLoaf_23) (fun r u H locs hp hw => ?_)
      rw [aAt_e hk hj] at hp
      obtain ⟨h7, h8, h9⟩ := hp
      have h8 : r = lfAt σ k j := h8
      have h9 : u = σ := h9
      have h8 := h8.symm
      have h9 := h9.symm
      subst h8
      subst h9
      refine lv_iload_n cx.x cx.b dX10_placesOfLoaf_26 rfl (lv_at hl 4 rfl) ?_
      refine lv_icmp_ne (tgt := 33) cx.x cx.b dX10_placesOfLoaf_27 (by decide) (fun hb27 => ?_) (fun hb27 => ?_)
      · refine lv_iinc (v := ((nI j) + 1)) (lv' := [(4, .int ((nI j) + 1)), (2, .int (pO σ lo k + tO σ k lo j)), (3, .int (nI k)), (0, .ref (G 0)), (1, .int lo)]) cx.x cx.b dX10_placesOfLoaf_33 hl (k := 0) rfl rfl (by decide) rfl (fun ls hl => ?_)
        refine lv_goto (tgt := 12) cx.x cx.b dX10_placesOfLoaf_36 (by decide) ?_
        have hb27 : ¬ (if hasP (s_z σ k) (nI j) then s_r σ k j else -1) = lo := hb27
        rw [nI_1] at hl
        exact kk2 H locs ls ⟨hw, by rw [tO, if_neg hb27]; exact lv_sub hl [0, 1, 2, 3, 4] rfl⟩
      · refine lv_iinc (v := ((pO σ lo k + tO σ k lo j) + 1)) (lv' := [(2, .int ((pO σ lo k + tO σ k lo j) + 1)), (4, .int (nI j)), (3, .int (nI k)), (0, .ref (G 0)), (1, .int lo)]) cx.x cx.b dX10_placesOfLoaf_30 hl (k := 1) rfl rfl (by decide) rfl (fun ls hl => ?_)
        refine lv_iinc (v := ((nI j) + 1)) (lv' := [(4, .int ((nI j) + 1)), (2, .int ((pO σ lo k + tO σ k lo j) + 1)), (3, .int (nI k)), (0, .ref (G 0)), (1, .int lo)]) cx.x cx.b dX10_placesOfLoaf_33 hl (k := 1) rfl rfl (by decide) rfl (fun ls hl => ?_)
        refine lv_goto (tgt := 12) cx.x cx.b dX10_placesOfLoaf_36 (by decide) ?_
        have hb27 : (if hasP (s_z σ k) (nI j) then s_r σ k j else -1) = lo := hb27
        rw [nI_1, Int32.add_assoc] at hl
        exact kk2 H locs ls ⟨hw, by rw [tO, if_pos hb27]; exact lv_sub hl [0, 1, 2, 3, 4] rfl⟩
set_option maxHeartbeats 4000000 in
set_option maxRecDepth 100000 in
theorem c_X10_lay (l : Launch) (hl0 : l.stackTraces = false) (D : va_G) (G : Nat → Nat) (Q : Nat → ClassId) (σ : St) {b : Nat} (hI : Inv b σ) (lo ks pl : Int32) : XI l yX10_lay cX10_lay 6 .int ({ frames := 16, cells := 2, slots := 16, locals := 600 }) D cls (tyl Q) [.ref (G 0), .int lo, .int ks, .int pl] (kw G Q) (kw G Q σ) (okA (aLay σ lo ks pl)) (exA eLAY (aLay σ lo ks pl)) 2 16 := by
  refine XI_of (by decide) (Nat.le_of_ble_eq_true rfl) ?_
  intro p e s m args below meth c A ls htab cx hw hl
  have hl : lv_has ls 6 [(0, .ref (G 0)), (1, .int lo), (2, .int ks), (3, .int pl)] := hl
  have hN9 := hI.n
  by_cases hv : okL σ lo
  · obtain ⟨i, hn, rfl⟩ := okL_i hN9 hv
    have hd := hI.k hn
    obtain ⟨ac, hac, hab⟩ := hI.ac i
    by_cases hs : okS ks
    · obtain ⟨k, hk, rfl⟩ := okS_k hs
      refine lv_aload_n cx.x cx.b dX10_lay_0 rfl (lv_at hl 0 rfl) ?_
      refine lv_iload_n cx.x cx.b dX10_lay_1 rfl (lv_at hl 1 rfl) ?_
      refine cgo_r cx hw (rV_r (q0 := 0) (n := 1) (As := [.int (nI i)]) (rest := []) cx hw (c_findLoaf_s l D G Q σ hN9 i hn) (gd_V tw_294 tw_296 ts_2 tw_1 tw_297) rfl ⟨by decide +kernel, rfl, hl.1, (Nat.le_of_ble_eq_true rfl), ⟨(Nat.le_of_ble_eq_true rfl), (Nat.le_of_ble_eq_true rfl)⟩, ⟨(Nat.le_of_ble_eq_true rfl), (Nat.le_of_ble_eq_true rfl)⟩, rfl, rfl⟩ rfl (kw_h σ) rfl dX10_lay_2) (fun r u H locs hp hw => ?_)
      obtain ⟨h8, h9⟩ := hp
      have h8 := h8.symm
      have h9 := h9.symm
      subst h8
      subst h9
      refine W.eq (g2 := F0 m 5 ls [.ref (s_a σ i)]) rfl ?_
      refine lv_astore (lv' := [(4, .ref (s_a σ i)), (0, .ref (G 0)), (1, .int (nI i)), (2, .int (nI k)), (3, .int pl)]) cx.x cx.b dX10_lay_5 hl (by decide) rfl (fun ls hl => ?_)
      refine lv_aload cx.x cx.b dX10_lay_7 (lv_at hl 0 rfl) ?_
      refine lv_ifnonnull (tgt := 15) cx.x cx.b dX10_lay_9 (by decide) ?_
      refine lv_aload_n cx.x cx.b dX10_lay_15 rfl (lv_at hl 1 rfl) ?_
      refine lv_iload_n cx.x cx.b dX10_lay_16 rfl (lv_at hl 3 rfl) ?_
      refine cgo_r cx hw (rV_r (q0 := 0) (n := 1) (As := [.int (nI k)]) (rest := []) cx hw (c_findShelf_s l D G Q σ k hk) (gd_V tw_278 tw_280 ts_1 tw_1 tw_281) rfl ⟨by decide +kernel, rfl, hl.1, (Nat.le_of_ble_eq_true rfl), ⟨(Nat.le_of_ble_eq_true rfl), (Nat.le_of_ble_eq_true rfl)⟩, ⟨(Nat.le_of_ble_eq_true rfl), (Nat.le_of_ble_eq_true rfl)⟩, rfl, rfl⟩ rfl (kw_h σ) rfl dX10_lay_17) (fun r u H locs hp hw => ?_)
      obtain ⟨h8, h9⟩ := hp
      have h8 := h8.symm
      have h9 := h9.symm
      subst h8
      subst h9
      refine W.eq (g2 := F0 m 20 ls [.ref (G (5 + k))]) rfl ?_
      refine lv_astore (lv' := [(5, .ref (G (5 + k))), (4, .ref (s_a σ i)), (0, .ref (G 0)), (1, .int (nI i)), (2, .int (nI k)), (3, .int pl)]) cx.x cx.b dX10_lay_20 hl (by decide) rfl (fun ls hl => ?_)
      refine lv_aload cx.x cx.b dX10_lay_22 (lv_at hl 0 rfl) ?_
      refine lv_ifnonnull (tgt := 30) cx.x cx.b dX10_lay_24 (by decide) ?_
      refine lv_aload cx.x cx.b dX10_lay_30 (lv_at hl 1 rfl) ?_
      refine lv_aload cx.x cx.b dX10_lay_32 (lv_at hl 0 rfl) ?_
      refine lv_iload_n cx.x cx.b dX10_lay_34 rfl (lv_at hl 5 rfl) ?_
      refine cgo_xv cx hw (dp_lay hl0 cx hw hn hd hk pl ac hac hab ⟨(Nat.le_of_ble_eq_true rfl), (Nat.le_of_ble_eq_true rfl), (Nat.le_of_ble_eq_true rfl), (Nat.le_of_ble_eq_true rfl)⟩ hl.1 dX10_lay_35) (fun E ce q u H locs hp hw h1 h2 h3 => ?_) (fun u H locs hp hw => ?_)
      · obtain ⟨g1, g3⟩ := hp
        subst g3
        exact xout_i _ htab cx hw (exA_of (by unfold aLay; rw [if_pos hv, if_pos hs, cl20 hN9 hn, cl4 hk, if_neg (ecode_n g1)]) g1) (Nat.le_of_ble_eq_true rfl) (Nat.le_of_ble_eq_true rfl) h1 h2 h3
      obtain ⟨g1, h9⟩ := hp
      have h9 := h9.symm
      subst h9
      refine lv_aload_n cx.x cx.b dX10_lay_38 rfl (lv_at hl 2 rfl) ?_
      refine lv_iload_n cx.x cx.b dX10_lay_39 rfl (lv_at hl 3 rfl) ?_
      refine cgo_i cx hw (rV_i (q0 := 0) (n := 1) (As := [.int (nI i)]) (rest := []) cx hw (c_X10_placesOfLoaf l D G Q (sLay (s_k σ i) i k pl σ) (nI i)) (gd_V tw_672 tw_674 ts_6 tw_1 tw_675) rfl ⟨by decide +kernel, rfl, hl.1, (Nat.le_of_ble_eq_true rfl), ⟨(Nat.le_of_ble_eq_true rfl), (Nat.le_of_ble_eq_true rfl)⟩, ⟨(Nat.le_of_ble_eq_true rfl), (Nat.le_of_ble_eq_true rfl)⟩, rfl, rfl⟩ rfl (kw_h (sLay (s_k σ i) i k pl σ)) rfl dX10_lay_40) (fun r u H locs hp hw => ?_)
      obtain ⟨h8, h9⟩ := hp
      have h8 := h8.symm
      have h9 := h9.symm
      subst h8
      subst h9
      exact xret_i (sLay (s_k σ i) i k pl σ) cx hw (okA_of (by unfold aLay; rw [if_pos hv, if_pos hs, cl20 hN9 hn, cl4 hk, if_pos g1])) dX10_lay_43 (Nat.le_of_ble_eq_true rfl) (Nat.le_of_ble_eq_true rfl)
    · have hs9 := okS_n hs
      refine lv_aload_n cx.x cx.b dX10_lay_0 rfl (lv_at hl 0 rfl) ?_
      refine lv_iload_n cx.x cx.b dX10_lay_1 rfl (lv_at hl 1 rfl) ?_
      refine cgo_r cx hw (rV_r (q0 := 0) (n := 1) (As := [.int (nI i)]) (rest := []) cx hw (c_findLoaf_s l D G Q σ hN9 i hn) (gd_V tw_294 tw_296 ts_2 tw_1 tw_297) rfl ⟨by decide +kernel, rfl, hl.1, (Nat.le_of_ble_eq_true rfl), ⟨(Nat.le_of_ble_eq_true rfl), (Nat.le_of_ble_eq_true rfl)⟩, ⟨(Nat.le_of_ble_eq_true rfl), (Nat.le_of_ble_eq_true rfl)⟩, rfl, rfl⟩ rfl (kw_h σ) rfl dX10_lay_2) (fun r u H locs hp hw => ?_)
      obtain ⟨h8, h9⟩ := hp
      have h8 := h8.symm
      have h9 := h9.symm
      subst h8
      subst h9
      refine W.eq (g2 := F0 m 5 ls [.ref (s_a σ i)]) rfl ?_
      refine lv_astore (lv' := [(4, .ref (s_a σ i)), (0, .ref (G 0)), (1, .int (nI i)), (2, .int ks), (3, .int pl)]) cx.x cx.b dX10_lay_5 hl (by decide) rfl (fun ls hl => ?_)
      refine lv_aload cx.x cx.b dX10_lay_7 (lv_at hl 0 rfl) ?_
      refine lv_ifnonnull (tgt := 15) cx.x cx.b dX10_lay_9 (by decide) ?_
      refine lv_aload_n cx.x cx.b dX10_lay_15 rfl (lv_at hl 1 rfl) ?_
      refine lv_iload_n cx.x cx.b dX10_lay_16 rfl (lv_at hl 3 rfl) ?_
      refine cgo_r cx hw (rV_r (q0 := 0) (n := 1) (As := [.int ks]) (rest := []) cx hw (c_findShelf_n l D G Q σ ks hs9) (gd_V tw_278 tw_280 ts_1 tw_1 tw_281) rfl ⟨by decide +kernel, rfl, hl.1, (Nat.le_of_ble_eq_true rfl), ⟨(Nat.le_of_ble_eq_true rfl), (Nat.le_of_ble_eq_true rfl)⟩, ⟨(Nat.le_of_ble_eq_true rfl), (Nat.le_of_ble_eq_true rfl)⟩, rfl, rfl⟩ rfl (kw_h σ) rfl dX10_lay_17) (fun r u H locs hp hw => ?_)
      obtain ⟨h8, h9⟩ := hp
      have h8 := h8.symm
      have h9 := h9.symm
      subst h8
      subst h9
      refine W.eq (g2 := F0 m 20 ls [.null]) rfl ?_
      refine lv_astoreN (lv' := [(5, .null), (4, .ref (s_a σ i)), (0, .ref (G 0)), (1, .int (nI i)), (2, .int ks), (3, .int pl)]) cx.x cx.b dX10_lay_20 hl (by decide) rfl (fun ls hl => ?_)
      refine lv_aloadN cx.x cx.b dX10_lay_22 (lv_at hl 0 rfl) ?_
      refine lv_ifnonnullN cx.x cx.b dX10_lay_24 ?_
      refine lv_bipush (v := (-102)) cx.x cx.b dX10_lay_27 (by decide) ?_
      exact xret_i σ cx hw (okA_of (by unfold aLay; rw [if_pos hv, if_neg hs])) dX10_lay_29 (Nat.le_of_ble_eq_true rfl) (Nat.le_of_ble_eq_true rfl)
  · have hv9 := okL_n hN9 hv
    refine lv_aload_n cx.x cx.b dX10_lay_0 rfl (lv_at hl 0 rfl) ?_
    refine lv_iload_n cx.x cx.b dX10_lay_1 rfl (lv_at hl 1 rfl) ?_
    refine cgo_r cx hw (rV_r (q0 := 0) (n := 1) (As := [.int lo]) (rest := []) cx hw (c_findLoaf_n l D G Q σ hN9 lo hv9) (gd_V tw_294 tw_296 ts_2 tw_1 tw_297) rfl ⟨by decide +kernel, rfl, hl.1, (Nat.le_of_ble_eq_true rfl), ⟨(Nat.le_of_ble_eq_true rfl), (Nat.le_of_ble_eq_true rfl)⟩, ⟨(Nat.le_of_ble_eq_true rfl), (Nat.le_of_ble_eq_true rfl)⟩, rfl, rfl⟩ rfl (kw_h σ) rfl dX10_lay_2) (fun r u H locs hp hw => ?_)
    obtain ⟨h8, h9⟩ := hp
    have h8 := h8.symm
    have h9 := h9.symm
    subst h8
    subst h9
    refine W.eq (g2 := F0 m 5 ls [.null]) rfl ?_
    refine lv_astoreN (lv' := [(4, .null), (0, .ref (G 0)), (1, .int lo), (2, .int ks), (3, .int pl)]) cx.x cx.b dX10_lay_5 hl (by decide) rfl (fun ls hl => ?_)
    refine lv_aloadN cx.x cx.b dX10_lay_7 (lv_at hl 0 rfl) ?_
    refine lv_ifnonnullN cx.x cx.b dX10_lay_9 ?_
    refine lv_bipush (v := (-101)) cx.x cx.b dX10_lay_12 (by decide) ?_
    exact xret_i σ cx hw (okA_of (by unfold aLay; rw [if_neg hv])) dX10_lay_14 (Nat.le_of_ble_eq_true rfl) (Nat.le_of_ble_eq_true rfl)
set_option maxHeartbeats 4000000 in
set_option maxRecDepth 100000 in
theorem c_X10_bakeShelf (l : Launch) (D : va_G) (G : Nat → Nat) (Q : Nat → ClassId) (σ : St) (hN : s_n σ ≤ 20) (hK : ∀ i, i < s_n σ → s_k σ i < 8) (k : Nat) (hk : k < 4) (ht : Int32) : MI l yX10_bakeShelf cX10_bakeShelf 6 .int ({ frames := 16, cells := 0, slots := 0, locals := 600 }) D cls (tyl Q) [.ref (G 0), .int (nI k), .int ht] (kw G Q) (kw G Q σ) (fun r u => r = (bkI k ht (0, σ) 8).1 ∧ u = (bkI k ht (0, σ) 8).2) 0 0 := by
  refine MI_of (by decide) (Nat.le_of_ble_eq_true rfl) ?_
  intro p e s m args below meth c A ls cx hw hl
  have hl : lv_has ls 6 [(0, .ref (G 0)), (1, .int (nI k)), (2, .int ht)] := hl
  refine lv_iconst (v := 0) cx.x cx.b dX10_bakeShelf_0 (by decide) ?_
  refine lv_istore_n (lv' := [(3, .int 0), (0, .ref (G 0)), (1, .int (nI k)), (2, .int ht)]) cx.x cx.b dX10_bakeShelf_1 rfl hl (by decide) rfl (fun ls hl => ?_)
  refine lv_iconst (v := 0) cx.x cx.b dX10_bakeShelf_2 (by decide) ?_
  refine lv_istore (lv' := [(4, .int 0), (3, .int 0), (0, .ref (G 0)), (1, .int (nI k)), (2, .int ht)]) cx.x cx.b dX10_bakeShelf_3 hl (by decide) rfl (fun ls hl => ?_)
  refine loopN 8 (fun _ => 0) (fun _ => 0) (fun j H locs ls => Wd D cls A s H locs (kw G Q ((bkI k ht (0, σ) j).2)) ∧ lv_has ls 6 [(4, .int (nI j)), (3, .int ((bkI k ht (0, σ) j).1)), (0, .ref (G 0)), (1, .int (nI k)), (2, .int ht)]) ⟨hw, hl⟩ (fun H locs ls ⟨hw, hl⟩ => ?_) (fun j hj H locs ls ⟨hw, hl⟩ kk => ?_)
  · refine lv_iload cx.x cx.b dX10_bakeShelf_5 (lv_at hl 0 rfl) ?_
    refine lv_bipush (v := 8) cx.x cx.b dX10_bakeShelf_7 (by decide) ?_
    refine lv_icmp_ge (tgt := 48) cx.x cx.b dX10_bakeShelf_9 (by decide) (fun hb9 => ?_) (fun hb9 => absurd (by decide) hb9)
    refine lv_iload_n cx.x cx.b dX10_bakeShelf_48 rfl (lv_at hl 1 rfl) ?_
    exact ret_i ((bkI k ht (0, σ) 8).2) cx hw ⟨rfl, rfl⟩ dX10_bakeShelf_49 (Nat.le_of_ble_eq_true rfl) (Nat.le_of_ble_eq_true rfl)
  · refine lv_iload cx.x cx.b dX10_bakeShelf_5 (lv_at hl 0 rfl) ?_
    refine lv_bipush (v := 8) cx.x cx.b dX10_bakeShelf_7 (by decide) ?_
    refine lv_icmp_ge (tgt := 48) cx.x cx.b dX10_bakeShelf_9 (by decide) (fun hb9 => absurd hb9 (nI_ge hj (by decide))) (fun hb9 => ?_)
    have hg := bkI_geo k ht (0, σ) j
    simp only [bkI] at kk
    generalize bkI k ht (0, σ) j = π at hw hl kk hg ⊢
    have hN9 : s_n π.2 ≤ 20 := hg.N hN
    have hK9 : ∀ i, i < s_n π.2 → s_k π.2 i < 8 := hg.K hK
    by_cases hx : okL π.2 (lfAt π.2 k j)
    · obtain ⟨i, hn, hxi⟩ := okL_i hN9 hx
      have hd := hK9 i hn
      refine lv_aload_n cx.x cx.b dX10_bakeShelf_12 rfl (lv_at hl 2 rfl) ?_
      refine lv_aload_n cx.x cx.b dX10_bakeShelf_13 rfl (lv_at hl 2 rfl) ?_
      refine lv_iload_n cx.x cx.b dX10_bakeShelf_14 rfl (lv_at hl 3 rfl) ?_
      refine lv_iload cx.x cx.b dX10_bakeShelf_15 (lv_at hl 0 rfl) ?_
      refine cgo_i cx hw (rV_i (q0 := 0) (n := 2) (As := [.int (nI k), .int (nI j)]) (rest := [.ref (G 0)]) cx hw (c_X10_at l D G Q (π.2) (nI k) (nI j)) (gd_V tw_382 tw_383 tw_384 tw_1 tw_385) rfl ⟨by decide +kernel, rfl, hl.1, (Nat.le_of_ble_eq_true rfl), ⟨(Nat.le_of_ble_eq_true rfl), (Nat.le_of_ble_eq_true rfl)⟩, ⟨(Nat.le_of_ble_eq_true rfl), (Nat.le_of_ble_eq_true rfl)⟩, rfl, rfl⟩ rfl (kw_h (π.2)) rfl dX10_bakeShelf_17) (fun r u H locs hp hw => ?_)
      rw [aAt_e hk hj] at hp
      obtain ⟨h7, h8, h9⟩ := hp
      have h8 : r = lfAt (π.2) k j := h8
      have h9 : u = π.2 := h9
      have h8 := h8.symm
      have h9 := h9.symm
      subst h8
      subst h9
      rw [hxi]
      refine cgo_r cx hw (rV_r (q0 := 0) (n := 1) (As := [.int (nI i)]) (rest := []) cx hw (c_findLoaf_s l D G Q (π.2) hN9 i hn) (gd_V tw_294 tw_296 ts_2 tw_1 tw_297) rfl ⟨by decide +kernel, rfl, hl.1, (Nat.le_of_ble_eq_true rfl), ⟨(Nat.le_of_ble_eq_true rfl), (Nat.le_of_ble_eq_true rfl)⟩, ⟨(Nat.le_of_ble_eq_true rfl), (Nat.le_of_ble_eq_true rfl)⟩, rfl, rfl⟩ rfl (kw_h (π.2)) rfl dX10_bakeShelf_20) (fun r u H locs hp hw => ?_)
      obtain ⟨h8, h9⟩ := hp
      have h8 := h8.symm
      have h9 := h9.symm
      subst h8
      subst h9
      refine W.eq (g2 := F0 m 23 ls [.ref (s_a (π.2) i)]) rfl ?_
      refine lv_astore (lv' := [(5, .ref (s_a (π.2) i)), (4, .int (nI j)), (3, .int (π.1)), (0, .ref (G 0)), (1, .int (nI k)), (2, .int ht)]) cx.x cx.b dX10_bakeShelf_23 hl (by decide) rfl (fun ls hl => ?_)
      refine lv_aload cx.x cx.b dX10_bakeShelf_25 (lv_at hl 0 rfl) ?_
      refine lv_ifnull cx.x cx.b dX10_bakeShelf_27 ?_
      refine lv_aload cx.x cx.b dX10_bakeShelf_30 (lv_at hl 0 rfl) ?_
      refine lv_iload_n cx.x cx.b dX10_bakeShelf_32 rfl (lv_at hl 5 rfl) ?_
      refine cgo_i cx hw (dp_bake cx hw hn hd ht ⟨(Nat.le_of_ble_eq_true rfl), (Nat.le_of_ble_eq_true rfl), (Nat.le_of_ble_eq_true rfl), (Nat.le_of_ble_eq_true rfl)⟩ hl.1 dX10_bakeShelf_33) (fun r u H locs hp hw => ?_)
      obtain ⟨h8, h9⟩ := hp
      have h8 := h8.symm
      have h9 := h9.symm
      subst h8
      subst h9
      refine lv_if_eq (tgt := 42) cx.x cx.b dX10_bakeShelf_36 (by decide) (fun hb36 => ?_) (fun hb36 => ?_)
      · refine lv_iinc (v := ((nI j) + 1)) (lv' := [(4, .int ((nI j) + 1)), (5, .ref (s_a (π.2) i)), (3, .int (π.1)), (0, .ref (G 0)), (1, .int (nI k)), (2, .int ht)]) cx.x cx.b dX10_bakeShelf_42 hl (k := 1) rfl rfl (by decide) rfl (fun ls hl => ?_)
        refine lv_goto (tgt := 5) cx.x cx.b dX10_bakeShelf_45 (by decide) ?_
        rw [bkS_p hx hxi (cl20 hN9 hn)] at kk
        rw [nI_1] at hl
        exact kk H locs ls ⟨hw, by rw [hb36, Int32.add_zero]; exact lv_sub hl [0, 2, 3, 4, 5] rfl⟩
      · refine lv_iinc (v := ((π.1) + 1)) (lv' := [(3, .int ((π.1) + 1)), (5, .ref (s_a (π.2) i)), (4, .int (nI j)), (0, .ref (G 0)), (1, .int (nI k)), (2, .int ht)]) cx.x cx.b dX10_bakeShelf_39 hl (k := 2) rfl rfl (by decide) rfl (fun ls hl => ?_)
        refine lv_iinc (v := ((nI j) + 1)) (lv' := [(4, .int ((nI j) + 1)), (3, .int ((π.1) + 1)), (5, .ref (s_a (π.2) i)), (0, .ref (G 0)), (1, .int (nI k)), (2, .int ht)]) cx.x cx.b dX10_bakeShelf_42 hl (k := 2) rfl rfl (by decide) rfl (fun ls hl => ?_)
        refine lv_goto (tgt := 5) cx.x cx.b dX10_bakeShelf_45 (by decide) ?_
        rw [bkS_p hx hxi (cl20 hN9 hn)] at kk
        rw [nI_1] at hl
        exact kk H locs ls ⟨hw, by rw [vBake_or.resolve_left hb36]; exact lv_sub hl [0, 1, 3, 4, 5] rfl⟩
    · have hv9 := okL_n hN9 hx
      refine lv_aload_n cx.x cx.b dX10_bakeShelf_12 rfl (lv_at hl 2 rfl) ?_
      refine lv_aload_n cx.x cx.b dX10_bakeShelf_13 rfl (lv_at hl 2 rfl) ?_
      refine lv_iload_n cx.x cx.b dX10_bakeShelf_14 rfl (lv_at hl 3 rfl) ?_
      refine lv_iload cx.x cx.b dX10_bakeShelf_15 (lv_at hl 0 rfl) ?_
      refine cgo_i cx hw (rV_i (q0 := 0) (n := 2) (As := [.int (nI k), .int (nI j)]) (rest := [.ref (G 0)]) cx hw (c_X10_at l D G Q (π.2) (nI k) (nI j)) (gd_V tw_382 tw_383 tw_384 tw_1 tw_385) rfl ⟨by decide +kernel, rfl, hl.1, (Nat.le_of_ble_eq_true rfl), ⟨(Nat.le_of_ble_eq_true rfl), (Nat.le_of_ble_eq_true rfl)⟩, ⟨(Nat.le_of_ble_eq_true rfl), (Nat.le_of_ble_eq_true rfl)⟩, rfl, rfl⟩ rfl (kw_h (π.2)) rfl dX10_bakeShelf_17) (fun r u H locs hp hw => ?_)
      rw [aAt_e hk hj] at hp
      obtain ⟨h7, h8, h9⟩ := hp
      have h8 : r = lfAt (π.2) k j := h8
      have h9 : u = π.2 := h9
      have h8 := h8.symm
      have h9 := h9.symm
      subst h8
      subst h9
      refine cgo_r cx hw (rV_r (q0 := 0) (n := 1) (As := [.int (lfAt (π.2) k j)]) (rest := []) cx hw (c_findLoaf_n l D G Q (π.2) hN9 (lfAt (π.2) k j) hv9) (gd_V tw_294 tw_296 ts_2 tw_1 tw_297) rfl ⟨by decide +kernel, rfl, hl.1, (Nat.le_of_ble_eq_true rfl), ⟨(Nat.le_of_ble_eq_true rfl), (Nat.le_of_ble_eq_true rfl)⟩, ⟨(Nat.le_of_ble_eq_true rfl), (Nat.le_of_ble_eq_true rfl)⟩, rfl, rfl⟩ rfl (kw_h (π.2)) rfl dX10_bakeShelf_20) (fun r u H locs hp hw => ?_)
      obtain ⟨h8, h9⟩ := hp
      have h8 := h8.symm
      have h9 := h9.symm
      subst h8
      subst h9
      refine W.eq (g2 := F0 m 23 ls [.null]) rfl ?_
      refine lv_astoreN (lv' := [(5, .null), (4, .int (nI j)), (3, .int (π.1)), (0, .ref (G 0)), (1, .int (nI k)), (2, .int ht)]) cx.x cx.b dX10_bakeShelf_23 hl (by decide) rfl (fun ls hl => ?_)
      refine lv_aloadN cx.x cx.b dX10_bakeShelf_25 (lv_at hl 0 rfl) ?_
      refine lv_ifnullN (tgt := 42) cx.x cx.b dX10_bakeShelf_27 (by decide) ?_
      refine lv_iinc (v := ((nI j) + 1)) (lv' := [(4, .int ((nI j) + 1)), (5, .null), (3, .int (π.1)), (0, .ref (G 0)), (1, .int (nI k)), (2, .int ht)]) cx.x cx.b dX10_bakeShelf_42 hl (k := 1) rfl rfl (by decide) rfl (fun ls hl => ?_)
      refine lv_goto (tgt := 5) cx.x cx.b dX10_bakeShelf_45 (by decide) ?_
      rw [bkS_n hx] at kk
      rw [nI_1] at hl
      exact kk H locs ls ⟨hw, lv_sub hl [0, 2, 3, 4, 5] rfl⟩
set_option maxHeartbeats 4000000 in
set_option maxRecDepth 100000 in
theorem c_X10_fire (l : Launch) (D : va_G) (G : Nat → Nat) (Q : Nat → ClassId) (σ : St) {b : Nat} (hI : Inv b σ) (ht : Int32) : MI l yX10_fire cX10_fire 4 .int ({ frames := 17, cells := 0, slots := 0, locals := 625 }) D cls (tyl Q) [.ref (G 0), .int ht] (kw G Q) (kw G Q σ) (okA (aFire σ ht)) 0 0 := by
  refine MI_of (by decide) (Nat.le_of_ble_eq_true rfl) ?_
  intro p e s m args below meth c A ls cx hw hl
  have hl : lv_has ls 4 [(0, .ref (G 0)), (1, .int ht)] := hl
  by_cases hm : w400 ht
  · refine lv_iload_n cx.x cx.b dX10_fire_0 rfl (lv_at hl 1 rfl) ?_
    refine lv_iconst (v := 0) cx.x cx.b dX10_fire_1 (by decide) ?_
    refine lv_sipush (v := 400) cx.x cx.b dX10_fire_2 (by decide) ?_
    refine cgo_i cx hw (rS_i (n := 3) (As := [.int ht, .int 0, .int 400]) (rest := []) cx hw (c_X10_within l D G Q σ ht 0 400) (gd_S tw_102 tw_103 tw_1 tw_104) ⟨by decide +kernel, rfl, hl.1, (Nat.le_of_ble_eq_true rfl), ⟨(Nat.le_of_ble_eq_true rfl), (Nat.le_of_ble_eq_true rfl)⟩, ⟨(Nat.le_of_ble_eq_true rfl), (Nat.le_of_ble_eq_true rfl)⟩, rfl, rfl⟩ rfl dX10_fire_5) (fun r u H locs hp hw => ?_)
    obtain ⟨h8, h9⟩ := hp
    have h8 := h8.symm
    have h9 := h9.symm
    subst h8
    subst h9
    refine lv_if_ne (tgt := 14) cx.x cx.b dX10_fire_8 (by decide) (fun hb8 => ?_) (fun hb8 => absurd hb8 (by rw [wth_eq0]; exact fun h => h hm))
    refine lv_iconst (v := 0) cx.x cx.b dX10_fire_14 (by decide) ?_
    refine lv_istore_n (lv' := [(2, .int 0), (0, .ref (G 0)), (1, .int ht)]) cx.x cx.b dX10_fire_15 rfl hl (by decide) rfl (fun ls hl => ?_)
    refine lv_iconst (v := 0) cx.x cx.b dX10_fire_16 (by decide) ?_
    refine lv_istore_n (lv' := [(3, .int 0), (2, .int 0), (0, .ref (G 0)), (1, .int ht)]) cx.x cx.b dX10_fire_17 rfl hl (by decide) rfl (fun ls hl => ?_)
    refine loopN 4 (fun _ => 0) (fun _ => 0) (fun k H locs ls => Wd D cls A s H locs (kw G Q ((fiI ht σ k).2)) ∧ lv_has ls 4 [(3, .int (nI k)), (2, .int ((fiI ht σ k).1)), (0, .ref (G 0)), (1, .int ht)]) ⟨hw, hl⟩ (fun H locs ls ⟨hw, hl⟩ => ?_) (fun k hk H locs ls ⟨hw, hl⟩ kk => ?_)
    · refine lv_iload_n cx.x cx.b dX10_fire_18 rfl (lv_at hl 0 rfl) ?_
      refine lv_iconst (v := 4) cx.x cx.b dX10_fire_19 (by decide) ?_
      refine lv_icmp_ge (tgt := 38) cx.x cx.b dX10_fire_20 (by decide) (fun hb20 => ?_) (fun hb20 => absurd (by decide) hb20)
      refine lv_iload_n cx.x cx.b dX10_fire_38 rfl (lv_at hl 1 rfl) ?_
      exact ret_i ((fiI ht σ 4).2) cx hw (okA_of (by unfold aFire; rw [if_pos hm])) dX10_fire_39 (Nat.le_of_ble_eq_true rfl) (Nat.le_of_ble_eq_true rfl)
    · refine lv_iload_n cx.x cx.b dX10_fire_18 rfl (lv_at hl 0 rfl) ?_
      refine lv_iconst (v := 4) cx.x cx.b dX10_fire_19 (by decide) ?_
      refine lv_icmp_ge (tgt := 38) cx.x cx.b dX10_fire_20 (by decide) (fun hb20 => absurd hb20 (nI_ge (b := 4) hk (by decide))) (fun hb20 => ?_)
      simp only [fiI] at kk
      have hN9 : s_n (fiI ht σ k).2 ≤ 20 := (fiI_geo ht σ k).N hI.n
      have hK9 : ∀ i, i < s_n (fiI ht σ k).2 → s_k (fiI ht σ k).2 i < 8 := (fiI_geo ht σ k).K (fun i h => hI.k h)
      refine lv_iload_n cx.x cx.b dX10_fire_23 rfl (lv_at hl 1 rfl) ?_
      refine lv_aload_n cx.x cx.b dX10_fire_24 rfl (lv_at hl 2 rfl) ?_
      refine lv_iload_n cx.x cx.b dX10_fire_25 rfl (lv_at hl 0 rfl) ?_
      refine lv_iload_n cx.x cx.b dX10_fire_26 rfl (lv_at hl 3 rfl) ?_
      refine cgo_i cx hw (rV_i (q0 := 0) (n := 2) (As := [.int (nI k), .int ht]) (rest := [.int ((fiI ht σ k).1)]) cx hw (c_X10_bakeShelf l D G Q ((fiI ht σ k).2) hN9 hK9 k hk ht) (gd_V tw_378 tw_380 ts_3 tw_1 tw_381) rfl ⟨by decide +kernel, rfl, hl.1, (Nat.le_of_ble_eq_true rfl), ⟨(Nat.le_of_ble_eq_true rfl), (Nat.le_of_ble_eq_true rfl)⟩, ⟨(Nat.le_of_ble_eq_true rfl), (Nat.le_of_ble_eq_true rfl)⟩, rfl, rfl⟩ rfl (kw_h ((fiI ht σ k).2)) rfl dX10_fire_27) (fun r u H locs hp hw => ?_)
      obtain ⟨h8, h9⟩ := hp
      have h8 := h8.symm
      have h9 := h9.symm
      subst h8
      subst h9
      refine lv_iadd cx.x cx.b dX10_fire_30 ?_
      refine lv_istore_n (lv' := [(2, .int (((fiI ht σ k).1) + ((bkI k ht (0, (fiI ht σ k).2) 8).1))), (3, .int (nI k)), (0, .ref (G 0)), (1, .int ht)]) cx.x cx.b dX10_fire_31 rfl hl (by decide) rfl (fun ls hl => ?_)
      refine lv_iinc (v := ((nI k) + 1)) (lv' := [(3, .int ((nI k) + 1)), (2, .int (((fiI ht σ k).1) + ((bkI k ht (0, (fiI ht σ k).2) 8).1))), (0, .ref (G 0)), (1, .int ht)]) cx.x cx.b dX10_fire_32 hl (k := 1) rfl rfl (by decide) rfl (fun ls hl => ?_)
      refine lv_goto (tgt := 18) cx.x cx.b dX10_fire_35 (by decide) ?_
      rw [nI_1] at hl
      exact kk H locs ls ⟨hw, hl⟩
  · refine lv_iload_n cx.x cx.b dX10_fire_0 rfl (lv_at hl 1 rfl) ?_
    refine lv_iconst (v := 0) cx.x cx.b dX10_fire_1 (by decide) ?_
    refine lv_sipush (v := 400) cx.x cx.b dX10_fire_2 (by decide) ?_
    refine cgo_i cx hw (rS_i (n := 3) (As := [.int ht, .int 0, .int 400]) (rest := []) cx hw (c_X10_within l D G Q σ ht 0 400) (gd_S tw_102 tw_103 tw_1 tw_104) ⟨by decide +kernel, rfl, hl.1, (Nat.le_of_ble_eq_true rfl), ⟨(Nat.le_of_ble_eq_true rfl), (Nat.le_of_ble_eq_true rfl)⟩, ⟨(Nat.le_of_ble_eq_true rfl), (Nat.le_of_ble_eq_true rfl)⟩, rfl, rfl⟩ rfl dX10_fire_5) (fun r u H locs hp hw => ?_)
    obtain ⟨h8, h9⟩ := hp
    have h8 := h8.symm
    have h9 := h9.symm
    subst h8
    subst h9
    refine lv_if_ne (tgt := 14) cx.x cx.b dX10_fire_8 (by decide) (fun hb8 => absurd (wth_eq0.mpr hm) hb8) (fun hb8 => ?_)
    refine lv_bipush (v := (-102)) cx.x cx.b dX10_fire_11 (by decide) ?_
    exact ret_i σ cx hw (okA_of (by unfold aFire; rw [if_neg hm])) dX10_fire_13 (Nat.le_of_ble_eq_true rfl) (Nat.le_of_ble_eq_true rfl)
set_option maxHeartbeats 4000000 in
set_option maxRecDepth 100000 in
theorem c_X10_fallsAtRest (l : Launch) (hl0 : l.stackTraces = false) (D : va_G) (G : Nat → Nat) (Q : Nat → ClassId) (σ : St) (i : Nat) (hn : i < s_n σ) (hd : s_k σ i < 8) (mi : Int32) : MW l yX10_fallsAtRest cX10_fallsAtRest 3 .boolean [(0, 7, 8, 172)] ({ frames := 16, cells := 1, slots := 6, locals := 600 }) D cls (tyl Q) [.ref (s_a σ i), .int mi] (kw G Q) (kw G Q σ) (fun r u => r = b01 (fRest (s_k σ i) i mi σ) ∧ u = rRest (s_k σ i) i mi σ) 1 6 := by
  refine MW_of (by decide) (Nat.le_of_ble_eq_true rfl) ?_
  intro p e s m args below meth c A ls htab cx hw hl
  have hl : lv_has ls 3 [(0, .ref (s_a σ i)), (1, .int mi)] := hl
  refine lv_aload_n cx.x cx.b dX10_fallsAtRest_0 rfl (lv_at hl 0 rfl) ?_
  refine lv_iload_n cx.x cx.b dX10_fallsAtRest_1 rfl (lv_at hl 1 rfl) ?_
  refine cgo_xi cx hw (dp_rest hl0 cx hw hn hd mi ⟨(Nat.le_of_ble_eq_true rfl), (Nat.le_of_ble_eq_true rfl), (Nat.le_of_ble_eq_true rfl), (Nat.le_of_ble_eq_true rfl)⟩ hl.1 dX10_fallsAtRest_2) (fun E ce q u H locs hp hw h1 h2 h3 => ?_) (fun r u H locs hp hw => ?_)
  · obtain ⟨g1, rfl, g3⟩ := hp
    subst g3
    refine ctch cx htab ⟨by decide, by decide⟩ (by decide) tw_401 (by decide +kernel) h1 h2 h3 ?_
    refine lv_astore_n (lv' := [(2, .ref q), (0, .ref (s_a σ i)), (1, .int mi)]) cx.x cx.b dX10_fallsAtRest_8 rfl hl (by decide) rfl (fun ls hl => ?_)
    refine lv_iconst (v := 1) cx.x cx.b dX10_fallsAtRest_9 (by decide) ?_
    exact ret_z (rRest (s_k σ i) i mi σ) cx hw rfl ⟨b01_1 g1, rfl⟩ dX10_fallsAtRest_10 (Nat.le_of_ble_eq_true rfl) (Nat.le_of_ble_eq_true rfl)
  obtain ⟨g1, h8, h9⟩ := hp
  have h8 := h8.symm
  have h9 := h9.symm
  subst h8
  subst h9
  refine lv_pop cx.x cx.b dX10_fallsAtRest_5 rfl ?_
  refine lv_iconst (v := 0) cx.x cx.b dX10_fallsAtRest_6 (by decide) ?_
  exact ret_z (rRest (s_k σ i) i mi σ) cx hw rfl ⟨b01_0 g1, rfl⟩ dX10_fallsAtRest_7 (Nat.le_of_ble_eq_true rfl) (Nat.le_of_ble_eq_true rfl)
set_option maxHeartbeats 4000000 in
set_option maxRecDepth 100000 in
theorem c_X10_night (l : Launch) (D : va_G) (G : Nat → Nat) (Q : Nat → ClassId) (σ : St) (hl0 : l.stackTraces = false) {b : Nat} (hI : Inv b σ) (mi : Int32) : MI l yX10_night cX10_night 5 .int ({ frames := 17, cells := 20, slots := 120, locals := 622 }) D cls (tyl Q) [.ref (G 0), .int mi] (kw G Q) (kw G Q σ) (okA (aNight σ mi)) 20 120 := by
  refine MI_of (by decide) (Nat.le_of_ble_eq_true rfl) ?_
  intro p e s m args below meth c A ls cx hw hl
  have hl : lv_has ls 5 [(0, .ref (G 0)), (1, .int mi)] := hl
  by_cases hm : w600 mi
  · refine lv_iload_n cx.x cx.b dX10_night_0 rfl (lv_at hl 1 rfl) ?_
    refine lv_iconst (v := 0) cx.x cx.b dX10_night_1 (by decide) ?_
    refine lv_sipush (v := 600) cx.x cx.b dX10_night_2 (by decide) ?_
    refine cgo_i cx hw (rS_i (n := 3) (As := [.int mi, .int 0, .int 600]) (rest := []) cx hw (c_X10_within l D G Q σ mi 0 600) (gd_S tw_102 tw_103 tw_1 tw_104) ⟨by decide +kernel, rfl, hl.1, (Nat.le_of_ble_eq_true rfl), ⟨(Nat.le_of_ble_eq_true rfl), (Nat.le_of_ble_eq_true rfl)⟩, ⟨(Nat.le_of_ble_eq_true rfl), (Nat.le_of_ble_eq_true rfl)⟩, rfl, rfl⟩ rfl dX10_night_5) (fun r u H locs hp hw => ?_)
    obtain ⟨h8, h9⟩ := hp
    have h8 := h8.symm
    have h9 := h9.symm
    subst h8
    subst h9
    refine lv_if_ne (tgt := 14) cx.x cx.b dX10_night_8 (by decide) (fun hb8 => ?_) (fun hb8 => absurd hb8 (by rw [wth_eq0]; exact fun h => h hm))
    refine lv_iconst (v := 0) cx.x cx.b dX10_night_14 (by decide) ?_
    refine lv_istore_n (lv' := [(2, .int 0), (0, .ref (G 0)), (1, .int mi)]) cx.x cx.b dX10_night_15 rfl hl (by decide) rfl (fun ls hl => ?_)
    refine lv_iconst (v := 0) cx.x cx.b dX10_night_16 (by decide) ?_
    refine lv_istore_n (lv' := [(3, .int 0), (2, .int 0), (0, .ref (G 0)), (1, .int mi)]) cx.x cx.b dX10_night_17 rfl hl (by decide) rfl (fun ls hl => ?_)
    refine loopN 20 (fun j => j) (fun j => 6 * j) (fun j H locs ls => Wd D cls A s H locs (kw G Q ((niI mi σ j).2)) ∧ lv_has ls 5 [(3, .int (nI j)), (2, .int ((niI mi σ j).1)), (0, .ref (G 0)), (1, .int mi)]) ⟨hw, hl⟩ (fun H locs ls ⟨hw, hl⟩ => ?_) (fun j hj H locs ls ⟨hw, hl⟩ kk => ?_)
    · refine lv_iload_n cx.x cx.b dX10_night_18 rfl (lv_at hl 0 rfl) ?_
      refine lv_bipush (v := 20) cx.x cx.b dX10_night_19 (by decide) ?_
      refine lv_icmp_ge (tgt := 54) cx.x cx.b dX10_night_21 (by decide) (fun hb21 => ?_) (fun hb21 => absurd (by decide) hb21)
      refine lv_iload_n cx.x cx.b dX10_night_54 rfl (lv_at hl 1 rfl) ?_
      exact ret_i ((niI mi σ 20).2) cx hw (okA_of (by unfold aNight; rw [if_pos hm])) dX10_night_55 (Nat.le_of_ble_eq_true rfl) (Nat.le_of_ble_eq_true rfl)
    · refine lv_iload_n cx.x cx.b dX10_night_18 rfl (lv_at hl 0 rfl) ?_
      refine lv_bipush (v := 20) cx.x cx.b dX10_night_19 (by decide) ?_
      refine lv_icmp_ge (tgt := 54) cx.x cx.b dX10_night_21 (by decide) (fun hb21 => absurd hb21 (nI_ge (b := 20) hj (by decide))) (fun hb21 => ?_)
      have hg := niI_geo mi σ j
      simp only [niI] at kk
      generalize niI mi σ j = π at hw hl kk hg ⊢
      have hN9 : s_n π.2 ≤ 20 := hg.N hI.n
      have hK9 : ∀ i, i < s_n π.2 → s_k π.2 i < 8 := hg.K (fun i h => hI.k h)
      by_cases hn : j < s_n π.2
      · have hd := hK9 j hn
        refine lv_aload_n cx.x cx.b dX10_night_24 rfl (lv_at hl 2 rfl) ?_
        refine lv_iload_n cx.x cx.b dX10_night_25 rfl (lv_at hl 0 rfl) ?_
        refine cgo_r cx hw (rV_r (q0 := 0) (n := 1) (As := [.int (nI j)]) (rest := []) cx hw (c_findLoaf_s l D G Q (π.2) hN9 j hn) (gd_V tw_294 tw_296 ts_2 tw_1 tw_297) rfl ⟨by decide +kernel, rfl, hl.1, (Nat.le_of_ble_eq_true rfl), ⟨(Nat.le_of_ble_eq_true rfl), (Nat.le_of_ble_eq_true rfl)⟩, ⟨by show (_ : Nat) ≤ 20; omega, by show (_ : Nat) ≤ 120; omega⟩, rfl, rfl⟩ rfl (kw_h (π.2)) rfl dX10_night_26) (fun r u H locs hp hw => ?_)
        obtain ⟨h8, h9⟩ := hp
        have h8 := h8.symm
        have h9 := h9.symm
        subst h8
        subst h9
        refine W.eq (g2 := F0 m 29 ls [.ref (s_a (π.2) j)]) rfl ?_
        refine lv_astore (lv' := [(4, .ref (s_a (π.2) j)), (3, .int (nI j)), (2, .int (π.1)), (0, .ref (G 0)), (1, .int mi)]) cx.x cx.b dX10_night_29 hl (by decide) rfl (fun ls hl => ?_)
        refine lv_aload cx.x cx.b dX10_night_31 (lv_at hl 0 rfl) ?_
        refine lv_ifnull cx.x cx.b dX10_night_33 ?_
        refine lv_aload cx.x cx.b dX10_night_36 (lv_at hl 0 rfl) ?_
        refine lv_iload_n cx.x cx.b dX10_night_38 rfl (lv_at hl 4 rfl) ?_
        refine cgo_i cx hw (rSW_i (n := 2) (As := [.ref (s_a (π.2) j), .int mi]) (rest := []) cx hw (c_X10_fallsAtRest l hl0 D G Q π.2 j hn hd mi) tw_398 tw_399 tw_1 tw_400 ⟨by decide +kernel, rfl, hl.1, (Nat.le_of_ble_eq_true rfl), ⟨(Nat.le_of_ble_eq_true rfl), (Nat.le_of_ble_eq_true rfl)⟩, ⟨by show (_ : Nat) ≤ 20; omega, by show (_ : Nat) ≤ 120; omega⟩, rfl, rfl⟩ rfl dX10_night_39) (fun r u H locs hp hw => ?_)
        obtain ⟨h8, h9⟩ := hp
        have h8 := h8.symm
        have h9 := h9.symm
        subst h8
        subst h9
        refine lv_if_eq (tgt := 48) cx.x cx.b dX10_night_42 (by decide) (fun hb42 => ?_) (fun hb42 => ?_)
        · refine lv_iinc (v := ((nI j) + 1)) (lv' := [(3, .int ((nI j) + 1)), (4, .ref (s_a (π.2) j)), (2, .int (π.1)), (0, .ref (G 0)), (1, .int mi)]) cx.x cx.b dX10_night_48 hl (k := 1) rfl rfl (by decide) rfl (fun ls hl => ?_)
          refine lv_goto (tgt := 18) cx.x cx.b dX10_night_51 (by decide) ?_
          rw [niS_p hn] at kk
          rw [nI_1] at hl
          refine W.widen (k := j + 1) (n := 6 * (j + 1)) (by omega) (by omega) ?_
          exact kk H locs ls ⟨hw, by rw [hb42, Int32.add_zero]; exact lv_sub hl [0, 2, 3, 4] rfl⟩
        · refine lv_iinc (v := ((π.1) + 1)) (lv' := [(2, .int ((π.1) + 1)), (4, .ref (s_a (π.2) j)), (3, .int (nI j)), (0, .ref (G 0)), (1, .int mi)]) cx.x cx.b dX10_night_45 hl (k := 2) rfl rfl (by decide) rfl (fun ls hl => ?_)
          refine lv_iinc (v := ((nI j) + 1)) (lv' := [(3, .int ((nI j) + 1)), (2, .int ((π.1) + 1)), (4, .ref (s_a (π.2) j)), (0, .ref (G 0)), (1, .int mi)]) cx.x cx.b dX10_night_48 hl (k := 2) rfl rfl (by decide) rfl (fun ls hl => ?_)
          refine lv_goto (tgt := 18) cx.x cx.b dX10_night_51 (by decide) ?_
          rw [niS_p hn] at kk
          rw [nI_1] at hl
          refine W.widen (k := j + 1) (n := 6 * (j + 1)) (by omega) (by omega) ?_
          exact kk H locs ls ⟨hw, by rw [b01_or.resolve_left hb42]; exact lv_sub hl [0, 1, 3, 4] rfl⟩
      · have hv9 : ¬ vp_in (nI j) (s_n π.2) := fun h => by obtain ⟨i, hi, e⟩ := vp_in_of h (by omega); rw [nI_eq (by omega) (by omega)] at e; omega
        refine lv_aload_n cx.x cx.b dX10_night_24 rfl (lv_at hl 2 rfl) ?_
        refine lv_iload_n cx.x cx.b dX10_night_25 rfl (lv_at hl 0 rfl) ?_
        refine cgo_r cx hw (rV_r (q0 := 0) (n := 1) (As := [.int (nI j)]) (rest := []) cx hw (c_findLoaf_n l D G Q (π.2) hN9 (nI j) hv9) (gd_V tw_294 tw_296 ts_2 tw_1 tw_297) rfl ⟨by decide +kernel, rfl, hl.1, (Nat.le_of_ble_eq_true rfl), ⟨(Nat.le_of_ble_eq_true rfl), (Nat.le_of_ble_eq_true rfl)⟩, ⟨by show (_ : Nat) ≤ 20; omega, by show (_ : Nat) ≤ 120; omega⟩, rfl, rfl⟩ rfl (kw_h (π.2)) rfl dX10_night_26) (fun r u H locs hp hw => ?_)
        obtain ⟨h8, h9⟩ := hp
        have h8 := h8.symm
        have h9 := h9.symm
        subst h8
        subst h9
        refine W.eq (g2 := F0 m 29 ls [.null]) rfl ?_
        refine lv_astoreN (lv' := [(4, .null), (3, .int (nI j)), (2, .int (π.1)), (0, .ref (G 0)), (1, .int mi)]) cx.x cx.b dX10_night_29 hl (by decide) rfl (fun ls hl => ?_)
        refine lv_aloadN cx.x cx.b dX10_night_31 (lv_at hl 0 rfl) ?_
        refine lv_ifnullN (tgt := 48) cx.x cx.b dX10_night_33 (by decide) ?_
        refine lv_iinc (v := ((nI j) + 1)) (lv' := [(3, .int ((nI j) + 1)), (4, .null), (2, .int (π.1)), (0, .ref (G 0)), (1, .int mi)]) cx.x cx.b dX10_night_48 hl (k := 1) rfl rfl (by decide) rfl (fun ls hl => ?_)
        refine lv_goto (tgt := 18) cx.x cx.b dX10_night_51 (by decide) ?_
        rw [niS_n hn] at kk
        rw [nI_1] at hl
        refine W.widen (k := j + 1) (n := 6 * (j + 1)) (by omega) (by omega) ?_
        exact kk H locs ls ⟨hw, lv_sub hl [0, 2, 3, 4] rfl⟩
  · refine lv_iload_n cx.x cx.b dX10_night_0 rfl (lv_at hl 1 rfl) ?_
    refine lv_iconst (v := 0) cx.x cx.b dX10_night_1 (by decide) ?_
    refine lv_sipush (v := 600) cx.x cx.b dX10_night_2 (by decide) ?_
    refine cgo_i cx hw (rS_i (n := 3) (As := [.int mi, .int 0, .int 600]) (rest := []) cx hw (c_X10_within l D G Q σ mi 0 600) (gd_S tw_102 tw_103 tw_1 tw_104) ⟨by decide +kernel, rfl, hl.1, (Nat.le_of_ble_eq_true rfl), ⟨(Nat.le_of_ble_eq_true rfl), (Nat.le_of_ble_eq_true rfl)⟩, ⟨(Nat.le_of_ble_eq_true rfl), (Nat.le_of_ble_eq_true rfl)⟩, rfl, rfl⟩ rfl dX10_night_5) (fun r u H locs hp hw => ?_)
    obtain ⟨h8, h9⟩ := hp
    have h8 := h8.symm
    have h9 := h9.symm
    subst h8
    subst h9
    refine lv_if_ne (tgt := 14) cx.x cx.b dX10_night_8 (by decide) (fun hb8 => absurd (wth_eq0.mpr hm) hb8) (fun hb8 => ?_)
    refine lv_bipush (v := (-102)) cx.x cx.b dX10_night_11 (by decide) ?_
    exact ret_i σ cx hw (okA_of (by unfold aNight; rw [if_neg hm])) dX10_night_13 (Nat.le_of_ble_eq_true rfl) (Nat.le_of_ble_eq_true rfl)
