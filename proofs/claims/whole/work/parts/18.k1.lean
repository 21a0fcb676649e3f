set_option maxHeartbeats 4000000 in
set_option maxRecDepth 100000 in
theorem c_X0_begin (l : Launch) (D : va_G) (G : Nat → Nat) (Q : Nat → ClassId) (σ : St) (a k : Int32) : MV l yX0_begin cX0_begin 3 ({ frames := 0, cells := 0, slots := 0, locals := 0 }) D cls (tyl Q) [.ref (G 1), .int a, .int k] (kw G Q) (kw G Q σ) (fun u => u = sBeg a k σ) 0 0 := by
  refine MV_of (by decide) (Nat.le_of_ble_eq_true rfl) ?_
  intro p e s m args below meth c A ls cx hw hl
  have hl : lv_has ls 3 [(0, .ref (G 1)), (1, .int a), (2, .int k)] := hl
  have hw : Wd D cls A s s.heap [] (kwB G Q σ (nx (s_N σ), kp (s_N σ), nI (s_N σ), s_g σ)) := hw
  refine lv_aload_n cx.x cx.b dX0_begin_0 rfl (lv_at hl 0 rfl) ?_
  refine gt_f (v := .int (nx (s_N σ))) cx hw 1 rfl rfl inX0 1 (by decide) tw_39 ⟨rfl, rfl, Or.inl rfl⟩ rfl dX0_begin_1 ?_
  refine lv_if_lt (tgt := 16) cx.x cx.b dX0_begin_4 (by decide) (fun hb4 => absurd hb4 nx_lt0) (fun hb4 => ?_)
  refine lv_aload_n cx.x cx.b dX0_begin_7 rfl (lv_at hl 0 rfl) ?_
  refine gt_f (v := .int (nx (s_N σ))) cx hw 1 rfl rfl inX0 1 (by decide) tw_39 ⟨rfl, rfl, Or.inl rfl⟩ rfl dX0_begin_8 ?_
  refine lv_bipush (v := 100) cx.x cx.b dX0_begin_11 (by decide) ?_
  refine lv_icmp_lt (tgt := 21) cx.x cx.b dX0_begin_13 (by decide) (fun hb13 => ?_) (fun hb13 => ?_)
  · refine lv_aload_n cx.x cx.b dX0_begin_21 rfl (lv_at hl 0 rfl) ?_
    refine gt_f (v := .ref (G 2)) cx hw 1 rfl rfl inX0 0 (by decide) tw_38 ⟨rfl, rfl, Or.inl rfl⟩ rfl dX0_begin_22 ?_
    refine lv_aload_n cx.x cx.b dX0_begin_25 rfl (lv_at hl 0 rfl) ?_
    refine gt_f (v := .int (nx (s_N σ))) cx hw 1 rfl rfl inX0 1 (by decide) tw_39 ⟨rfl, rfl, Or.inl rfl⟩ rfl dX0_begin_26 ?_
    refine lv_bipush (v := 10) cx.x cx.b dX0_begin_29 (by decide) ?_
    refine lv_iload_n cx.x cx.b dX0_begin_31 rfl (lv_at hl 1 rfl) ?_
    refine lv_imul cx.x cx.b dX0_begin_32 ?_
    refine lv_iload_n cx.x cx.b dX0_begin_33 rfl (lv_at hl 2 rfl) ?_
    refine lv_iadd cx.x cx.b dX0_begin_34 ?_
    refine ast_i (f := s_g σ) cx hw 2 0 rfl rfl (s_N σ % 100) (nx_a hb13) (Nat.mod_lt _ (by decide)) (by decide) dX0_begin_35 (w1 := kwB G Q σ (nx (s_N σ), kp (s_N σ), nI (s_N σ), upd (s_g σ) (s_N σ % 100) ((10 * a) + k))) rfl (fun H locs hw => ?_)
    refine lv_aload_n cx.x cx.b dX0_begin_36 rfl (lv_at hl 0 rfl) ?_
    refine lv_dup cx.x cx.b dX0_begin_37 rfl ?_
    refine gt_f (v := .int (nx (s_N σ))) cx hw 1 rfl rfl inX0 1 (by decide) tw_39 ⟨rfl, rfl, Or.inl rfl⟩ rfl dX0_begin_38 ?_
    refine lv_iconst (v := 1) cx.x cx.b dX0_begin_41 (by decide) ?_
    refine lv_iadd cx.x cx.b dX0_begin_42 ?_
    refine pt_f cx hw 1 rfl rfl inX0 tyX0 tyX0_ok nmX0 1 (by decide) tw_39 ⟨rfl, rfl, Or.inl rfl⟩ rfl rfl rfl rfl (Nat.le_of_ble_eq_true rfl) dX0_begin_43 (w1 := kwB G Q σ (((nx (s_N σ)) + 1), kp (s_N σ), nI (s_N σ), upd (s_g σ) (s_N σ % 100) ((10 * a) + k))) rfl (fun H locs hw => ?_)
    refine lv_aload_n cx.x cx.b dX0_begin_46 rfl (lv_at hl 0 rfl) ?_
    refine gt_f (v := .int (kp (s_N σ))) cx hw 1 rfl rfl inX0 2 (by decide) tw_40 ⟨rfl, rfl, Or.inl rfl⟩ rfl dX0_begin_47 ?_
    refine lv_bipush (v := 100) cx.x cx.b dX0_begin_50 (by decide) ?_
    refine lv_icmp_ge (tgt := 65) cx.x cx.b dX0_begin_52 (by decide) (fun hb52 => ?_) (fun hb52 => ?_)
    · refine lv_aload_n cx.x cx.b dX0_begin_65 rfl (lv_at hl 0 rfl) ?_
      refine lv_dup cx.x cx.b dX0_begin_66 rfl ?_
      refine gt_f (v := .int (nI (s_N σ))) cx hw 1 rfl rfl inX0 3 (by decide) tw_41 ⟨rfl, rfl, Or.inl rfl⟩ rfl dX0_begin_67 ?_
      refine lv_iconst (v := 1) cx.x cx.b dX0_begin_70 (by decide) ?_
      refine lv_iadd cx.x cx.b dX0_begin_71 ?_
      refine pt_f cx hw 1 rfl rfl inX0 tyX0 tyX0_ok nmX0 3 (by decide) tw_41 ⟨rfl, rfl, Or.inl rfl⟩ rfl rfl rfl rfl (Nat.le_of_ble_eq_true rfl) dX0_begin_72 (w1 := kwB G Q σ (((nx (s_N σ)) + 1), kp (s_N σ), ((nI (s_N σ)) + 1), upd (s_g σ) (s_N σ % 100) ((10 * a) + k))) rfl (fun H locs hw => ?_)
      rw [kwB_beg (a := a) (k := k) (by rw [nx_a hb13]; exact nx_s) (kp_a hb52).symm (nI_1 _) rfl] at hw
      exact ret_v (sBeg a k σ) cx hw rfl dX0_begin_75 (Nat.le_of_ble_eq_true rfl) (Nat.le_of_ble_eq_true rfl)
    · refine lv_aload_n cx.x cx.b dX0_begin_55 rfl (lv_at hl 0 rfl) ?_
      refine lv_dup cx.x cx.b dX0_begin_56 rfl ?_
      refine gt_f (v := .int (kp (s_N σ))) cx hw 1 rfl rfl inX0 2 (by decide) tw_40 ⟨rfl, rfl, Or.inl rfl⟩ rfl dX0_begin_57 ?_
      refine lv_iconst (v := 1) cx.x cx.b dX0_begin_60 (by decide) ?_
      refine lv_iadd cx.x cx.b dX0_begin_61 ?_
      refine pt_f cx hw 1 rfl rfl inX0 tyX0 tyX0_ok nmX0 2 (by decide) tw_40 ⟨rfl, rfl, Or.inl rfl⟩ rfl rfl rfl rfl (Nat.le_of_ble_eq_true rfl) dX0_begin_62 (w1 := kwB G Q σ (((nx (s_N σ)) + 1), ((kp (s_N σ)) + 1), nI (s_N σ), upd (s_g σ) (s_N σ % 100) ((10 * a) + k))) rfl (fun H locs hw => ?_)
      refine lv_aload_n cx.x cx.b dX0_begin_65 rfl (lv_at hl 0 rfl) ?_
      refine lv_dup cx.x cx.b dX0_begin_66 rfl ?_
      refine gt_f (v := .int (nI (s_N σ))) cx hw 1 rfl rfl inX0 3 (by decide) tw_41 ⟨rfl, rfl, Or.inl rfl⟩ rfl dX0_begin_67 ?_
      refine lv_iconst (v := 1) cx.x cx.b dX0_begin_70 (by decide) ?_
      refine lv_iadd cx.x cx.b dX0_begin_71 ?_
      refine pt_f cx hw 1 rfl rfl inX0 tyX0 tyX0_ok nmX0 3 (by decide) tw_41 ⟨rfl, rfl, Or.inl rfl⟩ rfl rfl rfl rfl (Nat.le_of_ble_eq_true rfl) dX0_begin_72 (w1 := kwB G Q σ (((nx (s_N σ)) + 1), ((kp (s_N σ)) + 1), ((nI (s_N σ)) + 1), upd (s_g σ) (s_N σ % 100) ((10 * a) + k))) rfl (fun H locs hw => ?_)
      rw [kwB_beg (a := a) (k := k) (by rw [nx_a hb13]; exact nx_s) (kp_b hb52) (nI_1 _) rfl] at hw
      exact ret_v (sBeg a k σ) cx hw rfl dX0_begin_75 (Nat.le_of_ble_eq_true rfl) (Nat.le_of_ble_eq_true rfl)
  · refine lv_aload_n cx.x cx.b dX0_begin_16 rfl (lv_at hl 0 rfl) ?_
    refine lv_iconst (v := 0) cx.x cx.b dX0_begin_17 (by decide) ?_
    refine pt_f cx hw 1 rfl rfl inX0 tyX0 tyX0_ok nmX0 1 (by decide) tw_39 ⟨rfl, rfl, Or.inl rfl⟩ rfl rfl rfl rfl (Nat.le_of_ble_eq_true rfl) dX0_begin_18 (w1 := kwB G Q σ (0, kp (s_N σ), nI (s_N σ), s_g σ)) rfl (fun H locs hw => ?_)
    refine lv_aload_n cx.x cx.b dX0_begin_21 rfl (lv_at hl 0 rfl) ?_
    refine gt_f (v := .ref (G 2)) cx hw 1 rfl rfl inX0 0 (by decide) tw_38 ⟨rfl, rfl, Or.inl rfl⟩ rfl dX0_begin_22 ?_
    refine lv_aload_n cx.x cx.b dX0_begin_25 rfl (lv_at hl 0 rfl) ?_
    refine gt_f (v := .int 0) cx hw 1 rfl rfl inX0 1 (by decide) tw_39 ⟨rfl, rfl, Or.inl rfl⟩ rfl dX0_begin_26 ?_
    refine lv_bipush (v := 10) cx.x cx.b dX0_begin_29 (by decide) ?_
    refine lv_iload_n cx.x cx.b dX0_begin_31 rfl (lv_at hl 1 rfl) ?_
    refine lv_imul cx.x cx.b dX0_begin_32 ?_
    refine lv_iload_n cx.x cx.b dX0_begin_33 rfl (lv_at hl 2 rfl) ?_
    refine lv_iadd cx.x cx.b dX0_begin_34 ?_
    refine ast_i (f := s_g σ) cx hw 2 0 rfl rfl (s_N σ % 100) (by rw [nx_b hb13]; rfl) (Nat.mod_lt _ (by decide)) (by decide) dX0_begin_35 (w1 := kwB G Q σ (0, kp (s_N σ), nI (s_N σ), upd (s_g σ) (s_N σ % 100) ((10 * a) + k))) rfl (fun H locs hw => ?_)
    refine lv_aload_n cx.x cx.b dX0_begin_36 rfl (lv_at hl 0 rfl) ?_
    refine lv_dup cx.x cx.b dX0_begin_37 rfl ?_
    refine gt_f (v := .int 0) cx hw 1 rfl rfl inX0 1 (by decide) tw_39 ⟨rfl, rfl, Or.inl rfl⟩ rfl dX0_begin_38 ?_
    refine lv_iconst (v := 1) cx.x cx.b dX0_begin_41 (by decide) ?_
    refine lv_iadd cx.x cx.b dX0_begin_42 ?_
    refine pt_f cx hw 1 rfl rfl inX0 tyX0 tyX0_ok nmX0 1 (by decide) tw_39 ⟨rfl, rfl, Or.inl rfl⟩ rfl rfl rfl rfl (Nat.le_of_ble_eq_true rfl) dX0_begin_43 (w1 := kwB G Q σ ((0 + 1), kp (s_N σ), nI (s_N σ), upd (s_g σ) (s_N σ % 100) ((10 * a) + k))) rfl (fun H locs hw => ?_)
    refine lv_aload_n cx.x cx.b dX0_begin_46 rfl (lv_at hl 0 rfl) ?_
    refine gt_f (v := .int (kp (s_N σ))) cx hw 1 rfl rfl inX0 2 (by decide) tw_40 ⟨rfl, rfl, Or.inl rfl⟩ rfl dX0_begin_47 ?_
    refine lv_bipush (v := 100) cx.x cx.b dX0_begin_50 (by decide) ?_
    refine lv_icmp_ge (tgt := 65) cx.x cx.b dX0_begin_52 (by decide) (fun hb52 => ?_) (fun hb52 => ?_)
    · refine lv_aload_n cx.x cx.b dX0_begin_65 rfl (lv_at hl 0 rfl) ?_
      refine lv_dup cx.x cx.b dX0_begin_66 rfl ?_
      refine gt_f (v := .int (nI (s_N σ))) cx hw 1 rfl rfl inX0 3 (by decide) tw_41 ⟨rfl, rfl, Or.inl rfl⟩ rfl dX0_begin_67 ?_
      refine lv_iconst (v := 1) cx.x cx.b dX0_begin_70 (by decide) ?_
      refine lv_iadd cx.x cx.b dX0_begin_71 ?_
      refine pt_f cx hw 1 rfl rfl inX0 tyX0 tyX0_ok nmX0 3 (by decide) tw_41 ⟨rfl, rfl, Or.inl rfl⟩ rfl rfl rfl rfl (Nat.le_of_ble_eq_true rfl) dX0_begin_72 (w1 := kwB G Q σ ((0 + 1), kp (s_N σ), ((nI (s_N σ)) + 1), upd (s_g σ) (s_N σ % 100) ((10 * a) + k))) rfl (fun H locs hw => ?_)
      rw [kwB_beg (a := a) (k := k) (by rw [← nx_s, nx_b hb13]; rfl) (kp_a hb52).symm (nI_1 _) rfl] at hw
      exact ret_v (sBeg a k σ) cx hw rfl dX0_begin_75 (Nat.le_of_ble_eq_true rfl) (Nat.le_of_ble_eq_true rfl)
    · refine lv_aload_n cx.x cx.b dX0_begin_55 rfl (lv_at hl 0 rfl) ?_
      refine lv_dup cx.x cx.b dX0_begin_56 rfl ?_
      refine gt_f (v := .int (kp (s_N σ))) cx hw 1 rfl rfl inX0 2 (by decide) tw_40 ⟨rfl, rfl, Or.inl rfl⟩ rfl dX0_begin_57 ?_
      refine lv_iconst (v := 1) cx.x cx.b dX0_begin_60 (by decide) ?_
      refine lv_iadd cx.x cx.b dX0_begin_61 ?_
      refine pt_f cx hw 1 rfl rfl inX0 tyX0 tyX0_ok nmX0 2 (by decide) tw_40 ⟨rfl, rfl, Or.inl rfl⟩ rfl rfl rfl rfl (Nat.le_of_ble_eq_true rfl) dX0_begin_62 (w1 := kwB G Q σ ((0 + 1), ((kp (s_N σ)) + 1), nI (s_N σ), upd (s_g σ) (s_N σ % 100) ((10 * a) + k))) rfl (fun H locs hw => ?_)
      refine lv_aload_n cx.x cx.b dX0_begin_65 rfl (lv_at hl 0 rfl) ?_
      refine lv_dup cx.x cx.b dX0_begin_66 rfl ?_
      refine gt_f (v := .int (nI (s_N σ))) cx hw 1 rfl rfl inX0 3 (by decide) tw_41 ⟨rfl, rfl, Or.inl rfl⟩ rfl dX0_begin_67 ?_
      refine lv_iconst (v := 1) cx.x cx.b dX0_begin_70 (by decide) ?_
      refine lv_iadd cx.x cx.b dX0_begin_71 ?_
      refine pt_f cx hw 1 rfl rfl inX0 tyX0 tyX0_ok nmX0 3 (by decide) tw_41 ⟨rfl, rfl, Or.inl rfl⟩ rfl rfl rfl rfl (Nat.le_of_ble_eq_true rfl) dX0_begin_72 (w1 := kwB G Q σ ((0 + 1), ((kp (s_N σ)) + 1), ((nI (s_N σ)) + 1), upd (s_g σ) (s_N σ % 100) ((10 * a) + k))) rfl (fun H locs hw => ?_)
      rw [kwB_beg (a := a) (k := k) (by rw [← nx_s, nx_b hb13]; rfl) (kp_b hb52) (nI_1 _) rfl] at hw
      exact ret_v (sBeg a k σ) cx hw rfl dX0_begin_75 (Nat.le_of_ble_eq_true rfl) (Nat.le_of_ble_eq_true rfl)
