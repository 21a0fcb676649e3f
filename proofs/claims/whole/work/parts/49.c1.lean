set_option maxHeartbeats 4000000 in
set_option maxRecDepth 100000 in
theorem c_X0_init (l : Launch) (D : va_G) (Q : Nat → ClassId) (q : Nat) : MV l yX0_init cX0_init 1 ({ frames := 1, cells := 1, slots := 100, locals := 20 }) D cls (tyl Q) [.ref q] (wBook Q q) [(q, .inr (0, [.null, .int 0, .int 0, .int 0, .int 0, .int 0, .int 0]))] (fun _ => True) 1 100 := by
  refine MVi_of (by decide) rfl (Nat.le_of_ble_eq_true rfl) ?_
  intro p e s m args below meth c A ls hin2 cx hw hl
  have hl : lv_has ls 1 [(0, .ref q)] := hl
  refine lv_aload_n cx.x cx.b dX0_init_0 rfl (lv_at hl 0 rfl) ?_
  refine W.objInit cx.x cx.b cx.ow (cx.ts _ tw_37) (cx.ts _ tw_30) (cx.ts _ tw_31) rfl (hl.1.trans cx.ml.symm) rfl dX0_init_1 (Nat.le_of_ble_eq_true rfl) (Nat.le_of_ble_eq_true rfl) ?_
  refine W.eq (g2 := F0 m 4 ls []) rfl ?_
  refine lv_aload_n cx.x cx.b dX0_init_4 rfl (lv_at hl 0 rfl) ?_
  refine lv_bipush (v := 100) cx.x cx.b dX0_init_5 (by decide) ?_
  refine nw_i (N := 100) cx hw (by decide) rfl (by decide) (Nat.le_of_ble_eq_true rfl) (Nat.le_of_ble_eq_true rfl) dX0_init_7 (fun a0 H hw => ?_)
  have hw : Wd D cls A s H _ ([(q, .inr (0, [.null, .int 0, .int 0, .int 0, .int 0, .int 0, .int 0])), (a0, arI (Q 0) 100 (fun _ => 0))]) := hw
  refine ptF_f cx hin2 hw 0 (a := q) (ci := 0) (fs := [.null, .int 0, .int 0, .int 0, .int 0, .int 0, .int 0]) rfl rfl inX0 tyX0 tyX0_ok nmX0 0 (by decide) tw_38 ⟨rfl, rfl, rfl, rfl⟩ rfl rfl rfl rfl (Nat.le_of_ble_eq_true rfl) dX0_init_9 (w1 := [(q, .inr (0, [.ref a0, .int 0, .int 0, .int 0, .int 0, .int 0, .int 0])), (a0, arI (Q 0) 100 (fun _ => 0))]) rfl (fun H locs hw => ?_)
  refine lv_aload_n cx.x cx.b dX0_init_12 rfl (lv_at hl 0 rfl) ?_
  refine lv_iconst (v := 0) cx.x cx.b dX0_init_13 (by decide) ?_
  refine pt_f cx hw 0 (a := q) (ci := 0) (fs := [.ref a0, .int 0, .int 0, .int 0, .int 0, .int 0, .int 0]) rfl rfl inX0 tyX0 tyX0_ok nmX0 1 (by decide) tw_39 ⟨rfl, rfl, Or.inl rfl⟩ rfl rfl rfl rfl (Nat.le_of_ble_eq_true rfl) dX0_init_14 (w1 := [(q, .inr (0, [.ref a0, .int 0, .int 0, .int 0, .int 0, .int 0, .int 0])), (a0, arI (Q 0) 100 (fun _ => 0))]) rfl (fun H locs hw => ?_)
  refine lv_aload_n cx.x cx.b dX0_init_17 rfl (lv_at hl 0 rfl) ?_
  refine lv_iconst (v := 0) cx.x cx.b dX0_init_18 (by decide) ?_
  refine pt_f cx hw 0 (a := q) (ci := 0) (fs := [.ref a0, .int 0, .int 0, .int 0, .int 0, .int 0, .int 0]) rfl rfl inX0 tyX0 tyX0_ok nmX0 2 (by decide) tw_40 ⟨rfl, rfl, Or.inl rfl⟩ rfl rfl rfl rfl (Nat.le_of_ble_eq_true rfl) dX0_init_19 (w1 := [(q, .inr (0, [.ref a0, .int 0, .int 0, .int 0, .int 0, .int 0, .int 0])), (a0, arI (Q 0) 100 (fun _ => 0))]) rfl (fun H locs hw => ?_)
  refine lv_aload_n cx.x cx.b dX0_init_22 rfl (lv_at hl 0 rfl) ?_
  refine lv_iconst (v := 0) cx.x cx.b dX0_init_23 (by decide) ?_
  refine pt_f cx hw 0 (a := q) (ci := 0) (fs := [.ref a0, .int 0, .int 0, .int 0, .int 0, .int 0, .int 0]) rfl rfl inX0 tyX0 tyX0_ok nmX0 3 (by decide) tw_41 ⟨rfl, rfl, Or.inl rfl⟩ rfl rfl rfl rfl (Nat.le_of_ble_eq_true rfl) dX0_init_24 (w1 := [(q, .inr (0, [.ref a0, .int 0, .int 0, .int 0, .int 0, .int 0, .int 0])), (a0, arI (Q 0) 100 (fun _ => 0))]) rfl (fun H locs hw => ?_)
  refine lv_aload_n cx.x cx.b dX0_init_27 rfl (lv_at hl 0 rfl) ?_
  refine lv_iconst (v := 0) cx.x cx.b dX0_init_28 (by decide) ?_
  refine pt_f cx hw 0 (a := q) (ci := 0) (fs := [.ref a0, .int 0, .int 0, .int 0, .int 0, .int 0, .int 0]) rfl rfl inX0 tyX0 tyX0_ok nmX0 4 (by decide) tw_43 ⟨rfl, rfl, Or.inl rfl⟩ rfl rfl rfl rfl (Nat.le_of_ble_eq_true rfl) dX0_init_29 (w1 := [(q, .inr (0, [.ref a0, .int 0, .int 0, .int 0, .int 0, .int 0, .int 0])), (a0, arI (Q 0) 100 (fun _ => 0))]) rfl (fun H locs hw => ?_)
  refine lv_aload_n cx.x cx.b dX0_init_32 rfl (lv_at hl 0 rfl) ?_
  refine lv_iconst (v := 0) cx.x cx.b dX0_init_33 (by decide) ?_
  refine pt_f cx hw 0 (a := q) (ci := 0) (fs := [.ref a0, .int 0, .int 0, .int 0, .int 0, .int 0, .int 0]) rfl rfl inX0 tyX0 tyX0_ok nmX0 5 (by decide) tw_46 ⟨rfl, rfl, Or.inl rfl⟩ rfl rfl rfl rfl (Nat.le_of_ble_eq_true rfl) dX0_init_34 (w1 := [(q, .inr (0, [.ref a0, .int 0, .int 0, .int 0, .int 0, .int 0, .int 0])), (a0, arI (Q 0) 100 (fun _ => 0))]) rfl (fun H locs hw => ?_)
  refine lv_aload_n cx.x cx.b dX0_init_37 rfl (lv_at hl 0 rfl) ?_
  refine lv_iconst (v := 0) cx.x cx.b dX0_init_38 (by decide) ?_
  refine pt_f cx hw 0 (a := q) (ci := 0) (fs := [.ref a0, .int 0, .int 0, .int 0, .int 0, .int 0, .int 0]) rfl rfl inX0 tyX0 tyX0_ok nmX0 6 (by decide) tw_49 ⟨rfl, rfl, Or.inl rfl⟩ rfl rfl rfl rfl (Nat.le_of_ble_eq_true rfl) dX0_init_39 (w1 := [(q, .inr (0, [.ref a0, .int 0, .int 0, .int 0, .int 0, .int 0, .int 0])), (a0, arI (Q 0) 100 (fun _ => 0))]) rfl (fun H locs hw => ?_)
  exact ret_v a0 cx hw trivial dX0_init_42 (Nat.le_of_ble_eq_true rfl) (Nat.le_of_ble_eq_true rfl)
set_option maxHeartbeats 4000000 in
set_option maxRecDepth 100000 in
theorem c_X7_init (l : Launch) (D : va_G) (Q : Nat → ClassId) (q : Nat) : MV l yX7_init cX7_init 1 ({ frames := 1, cells := 1, slots := 8, locals := 20 }) D cls (tyl Q) [.ref q] (wShelf Q q) [(q, .inr (1, [.null, .int 0]))] (fun _ => True) 1 8 := by
  refine MVi_of (by decide) rfl (Nat.le_of_ble_eq_true rfl) ?_
  intro p e s m args below meth c A ls hin2 cx hw hl
  have hl : lv_has ls 1 [(0, .ref q)] := hl
  refine lv_aload_n cx.x cx.b dX7_init_0 rfl (lv_at hl 0 rfl) ?_
  refine W.objInit cx.x cx.b cx.ow (cx.ts _ tw_74) (cx.ts _ tw_30) (cx.ts _ tw_31) rfl (hl.1.trans cx.ml.symm) rfl dX7_init_1 (Nat.le_of_ble_eq_true rfl) (Nat.le_of_ble_eq_true rfl) ?_
  refine W.eq (g2 := F0 m 4 ls []) rfl ?_
  refine lv_aload_n cx.x cx.b dX7_init_4 rfl (lv_at hl 0 rfl) ?_
  refine lv_bipush (v := 8) cx.x cx.b dX7_init_5 (by decide) ?_
  refine nw_i (N := 8) cx hw (by decide) rfl (by decide) (Nat.le_of_ble_eq_true rfl) (Nat.le_of_ble_eq_true rfl) dX7_init_7 (fun a0 H hw => ?_)
  have hw : Wd D cls A s H _ ([(q, .inr (1, [.null, .int 0])), (a0, arI (Q 0) 8 (fun _ => 0))]) := hw
  refine ptF_f cx hin2 hw 0 (a := q) (ci := 1) (fs := [.null, .int 0]) rfl rfl inX7 tyX7 tyX7_ok nmX7 0 (by decide) tw_75 ⟨rfl, rfl, rfl, rfl⟩ rfl rfl rfl rfl (Nat.le_of_ble_eq_true rfl) dX7_init_9 (w1 := [(q, .inr (1, [.ref a0, .int 0])), (a0, arI (Q 0) 8 (fun _ => 0))]) rfl (fun H locs hw => ?_)
  refine lv_aload_n cx.x cx.b dX7_init_12 rfl (lv_at hl 0 rfl) ?_
  refine lv_iconst (v := (-1)) cx.x cx.b dX7_init_13 (by decide) ?_
  refine pt_f cx hw 0 (a := q) (ci := 1) (fs := [.ref a0, .int 0]) rfl rfl inX7 tyX7 tyX7_ok nmX7 1 (by decide) tw_76 ⟨rfl, rfl, Or.inl rfl⟩ rfl rfl rfl rfl (Nat.le_of_ble_eq_true rfl) dX7_init_14 (w1 := [(q, .inr (1, [.ref a0, .int (-1)])), (a0, arI (Q 0) 8 (fun _ => 0))]) rfl (fun H locs hw => ?_)
  exact ret_v a0 cx hw trivial dX7_init_17 (Nat.le_of_ble_eq_true rfl) (Nat.le_of_ble_eq_true rfl)
set_option maxHeartbeats 4000000 in
set_option maxRecDepth 100000 in
theorem c_X10_init (l : Launch) (D : va_G) (Q : Nat → ClassId) (q : Nat) : MV l yX10_init cX10_init 2 ({ frames := 2, cells := 12, slots := 171, locals := 40 }) D cls (tyl Q) [.ref q] (fun G : Nat → Nat => kw G Q σ0) [(q, .inr (2, [.null, .null, .null, .int 0]))] (fun G => G 0 = q) 12 171 := by
  refine MVi_of (by decide) rfl (Nat.le_of_ble_eq_true rfl) ?_
  intro p e s m args below meth c A ls hin2 cx hw hl
  have hl : lv_has ls 2 [(0, .ref q)] := hl
  refine lv_aload_n cx.x cx.b dX10_init_0 rfl (lv_at hl 0 rfl) ?_
  refine W.objInit cx.x cx.b cx.ow (cx.ts _ tw_29) (cx.ts _ tw_30) (cx.ts _ tw_31) rfl (hl.1.trans cx.ml.symm) rfl dX10_init_1 (Nat.le_of_ble_eq_true rfl) (Nat.le_of_ble_eq_true rfl) ?_
  refine W.eq (g2 := F0 m 4 ls []) rfl ?_
  refine lv_aload_n cx.x cx.b dX10_init_4 rfl (lv_at hl 0 rfl) ?_
  refine nw_o (ci := 0) (fs := [.null, .int 0, .int 0, .int 0, .int 0, .int 0, .int 0]) cx hw rfl inX0 tyX0 tyX0_ok tw_32 tw_33 tw_2 (by decide +kernel) (Nat.le_of_ble_eq_true rfl) (Nat.le_of_ble_eq_true rfl) dX10_init_5 (fun o0 H hw => ?_)
  refine lv_dup cx.x cx.b dX10_init_8 rfl ?_
  refine cgoF_v cx hw (rIN_v (host := "BakeHouse") (n := 0) (As := []) (rest := [.ref o0, .ref q]) cx hw.r (c_X0_init l D Q o0) (by decide +kernel) tw_35 tw_2 tw_36 rfl ⟨by decide +kernel, rfl, hl.1, (Nat.le_of_ble_eq_true rfl), ⟨(Nat.le_of_ble_eq_true rfl), (Nat.le_of_ble_eq_true rfl)⟩, ⟨(Nat.le_of_ble_eq_true rfl), (Nat.le_of_ble_eq_true rfl)⟩, rfl, rfl⟩ rfl dX10_init_9) (fun r1 H locs _ hw => ?_)
  have hw : Wd D cls A s H _ ([(q, .inr (2, [.null, .null, .null, .int 0])), (o0, .inr (0, [.ref r1, .int 0, .int 0, .int 0, .int 0, .int 0, .int 0])), (r1, arI (Q 0) 100 (fun _ => 0))]) := hw
  refine ptF_f cx hin2 hw 0 (a := q) (ci := 2) (fs := [.null, .null, .null, .int 0]) rfl rfl inX10 tyX10 tyX10_ok nmX10 0 (by decide) tw_85 ⟨rfl, rfl, rfl, rfl⟩ rfl rfl rfl rfl (Nat.le_of_ble_eq_true rfl) dX10_init_12 (w1 := [(q, .inr (2, [.ref o0, .null, .null, .int 0])), (o0, .inr (0, [.ref r1, .int 0, .int 0, .int 0, .int 0, .int 0, .int 0])), (r1, arI (Q 0) 100 (fun _ => 0))]) rfl (fun H locs hw => ?_)
  refine lv_aload_n cx.x cx.b dX10_init_15 rfl (lv_at hl 0 rfl) ?_
  refine lv_iconst (v := 4) cx.x cx.b dX10_init_16 (by decide) ?_
  refine nw_q (N := 4) (j := 1) cx hw rfl tw_68 cx.ev.2.2.2.2.2.1 (by decide) rfl (by decide) (Nat.le_of_ble_eq_true rfl) (Nat.le_of_ble_eq_true rfl) dX10_init_17 (fun v2 H hw => ?_)
  have hw : Wd D cls A s H _ ([(q, .inr (2, [.ref o0, .null, .null, .int 0])), (o0, .inr (0, [.ref r1, .int 0, .int 0, .int 0, .int 0, .int 0, .int 0])), (r1, arI (Q 0) 100 (fun _ => 0)), (v2, arR (Q 1) 4 (fun _ => none))]) := hw
  refine ptF_f cx hin2 hw 0 (a := q) (ci := 2) (fs := [.ref o0, .null, .null, .int 0]) rfl rfl inX10 tyX10 tyX10_ok nmX10 1 (by decide) tw_86 ⟨rfl, rfl, rfl, rfl⟩ rfl rfl rfl rfl (Nat.le_of_ble_eq_true rfl) dX10_init_20 (w1 := [(q, .inr (2, [.ref o0, .ref v2, .null, .int 0])), (o0, .inr (0, [.ref r1, .int 0, .int 0, .int 0, .int 0, .int 0, .int 0])), (r1, arI (Q 0) 100 (fun _ => 0)), (v2, arR (Q 1) 4 (fun _ => none))]) rfl (fun H locs hw => ?_)
  refine lv_iconst (v := 0) cx.x cx.b dX10_init_23 (by decide) ?_
  refine lv_istore_n (lv' := [(1, .int 0), (0, .ref q)]) cx.x cx.b dX10_init_24 rfl hl (by decide) rfl (fun ls hl => ?_)
  refine lv_iload_n cx.x cx.b dX10_init_25 rfl (lv_at hl 0 rfl) ?_
  refine lv_iconst (v := 4) cx.x cx.b dX10_init_26 (by decide) ?_
  refine lv_icmp_ge (tgt := 49) cx.x cx.b dX10_init_27 (by decide) (fun h9 => absurd h9 (by decide)) (fun _ => ?_)
  refine lv_aload_n cx.x cx.b dX10_init_30 rfl (lv_at hl 1 rfl) ?_
  refine gt_f (v := .ref v2) (a := q) (ci := 2) (fs := [.ref o0, .ref v2, .null, .int 0]) cx hw 0 rfl rfl inX10 1 (by decide) tw_86 ⟨rfl, rfl, Or.inl rfl⟩ rfl dX10_init_31 ?_
  refine lv_iload_n cx.x cx.b dX10_init_34 rfl (lv_at hl 0 rfl) ?_
  refine nw_o (ci := 1) (fs := [.null, .int 0]) cx hw rfl inX7 tyX7 tyX7_ok tw_68 tw_70 tw_3 (by decide +kernel) (Nat.le_of_ble_eq_true rfl) (Nat.le_of_ble_eq_true rfl) dX10_init_35 (fun o3 H hw => ?_)
  refine lv_dup cx.x cx.b dX10_init_38 rfl ?_
  refine cgoF_v cx hw (rIN_v (host := "BakeHouse") (n := 0) (As := []) (rest := [.ref o3, .int 0, .ref v2]) cx hw.r (c_X7_init l D Q o3) (by decide +kernel) tw_72 tw_3 tw_73 rfl ⟨by decide +kernel, rfl, hl.1, (Nat.le_of_ble_eq_true rfl), ⟨(Nat.le_of_ble_eq_true rfl), (Nat.le_of_ble_eq_true rfl)⟩, ⟨(Nat.le_of_ble_eq_true rfl), (Nat.le_of_ble_eq_true rfl)⟩, rfl, rfl⟩ rfl dX10_init_39) (fun r4 H locs _ hw => ?_)
  have hw : Wd D cls A s H _ ([(q, .inr (2, [.ref o0, .ref v2, .null, .int 0])), (o0, .inr (0, [.ref r1, .int 0, .int 0, .int 0, .int 0, .int 0, .int 0])), (r1, arI (Q 0) 100 (fun _ => 0)), (v2, arR (Q 1) 4 (fun _ => none)), (o3, .inr (1, [.ref r4, .int (-1)])), (r4, arI (Q 0) 8 (fun _ => 0))]) := hw
  refine ast_r (v := o3) (ci := 1) cx hw 3 1 4 rfl rfl (vs := [.ref r4, .int (-1)]) rfl rfl (Or.inl rfl) 0 rfl (by decide) (by decide) dX10_init_42 (w1 := [(q, .inr (2, [.ref o0, .ref v2, .null, .int 0])), (o0, .inr (0, [.ref r1, .int 0, .int 0, .int 0, .int 0, .int 0, .int 0])), (r1, arI (Q 0) 100 (fun _ => 0)), (v2, arR (Q 1) 4 (va_up (fun _ => none) 0 (some o3))), (o3, .inr (1, [.ref r4, .int (-1)])), (r4, arI (Q 0) 8 (fun _ => 0))]) rfl (fun H locs hw => ?_)
  refine lv_iinc (v := 1) (lv' := [(1, .int 1), (0, .ref q)]) cx.x cx.b dX10_init_43 hl (k := 0) rfl rfl (by decide) rfl (fun ls hl => ?_)
  refine lv_goto (tgt := 25) cx.x cx.b dX10_init_46 (by decide) ?_
  refine lv_iload_n cx.x cx.b dX10_init_25 rfl (lv_at hl 0 rfl) ?_
  refine lv_iconst (v := 4) cx.x cx.b dX10_init_26 (by decide) ?_
  refine lv_icmp_ge (tgt := 49) cx.x cx.b dX10_init_27 (by decide) (fun h9 => absurd h9 (by decide)) (fun _ => ?_)
  refine lv_aload_n cx.x cx.b dX10_init_30 rfl (lv_at hl 1 rfl) ?_
  refine gt_f (v := .ref v2) (a := q) (ci := 2) (fs := [.ref o0, .ref v2, .null, .int 0]) cx hw 0 rfl rfl inX10 1 (by decide) tw_86 ⟨rfl, rfl, Or.inl rfl⟩ rfl dX10_init_31 ?_
  refine lv_iload_n cx.x cx.b dX10_init_34 rfl (lv_at hl 0 rfl) ?_
  refine nw_o (ci := 1) (fs := [.null, .int 0]) cx hw rfl inX7 tyX7 tyX7_ok tw_68 tw_70 tw_3 (by decide +kernel) (Nat.le_of_ble_eq_true rfl) (Nat.le_of_ble_eq_true rfl) dX10_init_35 (fun o5 H hw => ?_)
  refine lv_dup cx.x cx.b dX10_init_38 rfl ?_
  refine cgoF_v cx hw (rIN_v (host := "BakeHouse") (n := 0) (As := []) (rest := [.ref o5, .int 1, .ref v2]) cx hw.r (c_X7_init l D Q o5) (by decide +kernel) tw_72 tw_3 tw_73 rfl ⟨by decide +kernel, rfl, hl.1, (Nat.le_of_ble_eq_true rfl), ⟨(Nat.le_of_ble_eq_true rfl), (Nat.le_of_ble_eq_true rfl)⟩, ⟨(Nat.le_of_ble_eq_true rfl), (Nat.le_of_ble_eq_true rfl)⟩, rfl, rfl⟩ rfl dX10_init_39) (fun r6 H locs _ hw => ?_)
  have hw : Wd D cls A s H _ ([(q, .inr (2, [.ref o0, .ref v2, .null, .int 0])), (o0, .inr (0, [.ref r1, .int 0, .int 0, .int 0, .int 0, .int 0, .int 0])), (r1, arI (Q 0) 100 (fun _ => 0)), (v2, arR (Q 1) 4 (va_up (fun _ => none) 0 (some o3))), (o3, .inr (1, [.ref r4, .int (-1)])), (r4, arI (Q 0) 8 (fun _ => 0)), (o5, .inr (1, [.ref r6, .int (-1)])), (r6, arI (Q 0) 8 (fun _ => 0))]) := hw
  refine ast_r (v := o5) (ci := 1) cx hw 3 1 6 rfl rfl (vs := [.ref r6, .int (-1)]) rfl rfl (Or.inl rfl) 1 rfl (by decide) (by decide) dX10_init_42 (w1 := [(q, .inr (2, [.ref o0, .ref v2, .null, .int 0])), (o0, .inr (0, [.ref r1, .int 0, .int 0, .int 0, .int 0, .int 0, .int 0])), (r1, arI (Q 0) 100 (fun _ => 0)), (v2, arR (Q 1) 4 (va_up (va_up (fun _ => none) 0 (some o3)) 1 (some o5))), (o3, .inr (1, [.ref r4, .int (-1)])), (r4, arI (Q 0) 8 (fun _ => 0)), (o5, .inr (1, [.ref r6, .int (-1)])), (r6, arI (Q 0) 8 (fun _ => 0))]) rfl (fun H locs hw => ?_)
  refine lv_iinc (v := 2) (lv' := [(1, .int 2), (0, .ref q)]) cx.x cx.b dX10_init_43 hl (k := 0) rfl rfl (by decide) rfl (fun ls hl => ?_)
  refine lv_goto (tgt := 25) cx.x cx.b dX10_init_46 (by decide) ?_
  refine lv_iload_n cx.x cx.b dX10_init_25 rfl (lv_at hl 0 rfl) ?_
  refine lv_iconst (v := 4) cx.x cx.b dX10_init_26 (by decide) ?_
  refine lv_icmp_ge (tgt := 49) cx.x cx.b dX10_init_27 (by decide) (fun h9 => absurd h9 (by decide)) (fun _ => ?_)
  refine lv_aload_n cx.x cx.b dX10_init_30 rfl (lv_at hl 1 rfl) ?_
  refine gt_f (v := .ref v2) (a := q) (ci := 2) (fs := [.ref o0, .ref v2, .null, .int 0]) cx hw 0 rfl rfl inX10 1 (by decide) tw_86 ⟨rfl, rfl, Or.inl rfl⟩ rfl dX10_init_31 ?_
  refine lv_iload_n cx.x cx.b dX10_init_34 rfl (lv_at hl 0 rfl) ?_
  refine nw_o (ci := 1) (fs := [.null, .int 0]) cx hw rfl inX7 tyX7 tyX7_ok tw_68 tw_70 tw_3 (by decide +kernel) (Nat.le_of_ble_eq_true rfl) (Nat.le_of_ble_eq_true rfl) dX10_init_35 (fun o7 H hw => ?_)
  refine lv_dup cx.x cx.b dX10_init_38 rfl ?_
  refine cgoF_v cx hw (rIN_v (host := "BakeHouse") (n := 0) (As := []) (rest := [.ref o7, .int 2, .ref v2]) cx hw.r (c_X7_init l D Q o7) (by decide +kernel) tw_72 tw_3 tw_73 rfl ⟨by decide +kernel, rfl, hl.1, (Nat.le_of_ble_eq_true rfl), ⟨(Nat.le_of_ble_eq_true rfl), (Nat.le_of_ble_eq_true rfl)⟩, ⟨(Nat.le_of_ble_eq_true rfl), (Nat.le_of_ble_eq_true rfl)⟩, rfl, rfl⟩ rfl dX10_init_39) (fun r8 H locs _ hw => ?_)
  have hw : Wd D cls A s H _ ([(q, .inr (2, [.ref o0, .ref v2, .null, .int 0])), (o0, .inr (0, [.ref r1, .int 0, .int 0, .int 0, .int 0, .int 0, .int 0])), (r1, arI (Q 0) 100 (fun _ => 0)), (v2, arR (Q 1) 4 (va_up (va_up (fun _ => none) 0 (some o3)) 1 (some o5))), (o3, .inr (1, [.ref r4, .int (-1)])), (r4, arI (Q 0) 8 (fun _ => 0)), (o5, .inr (1, [.ref r6, .int (-1)])), (r6, arI (Q 0) 8 (fun _ => 0)), (o7, .inr (1, [.ref r8, .int (-1)])), (r8, arI (Q 0) 8 (fun _ => 0))]) := hw
  refine ast_r (v := o7) (ci := 1) cx hw 3 1 8 rfl rfl (vs := [.ref r8, .int (-1)]) rfl rfl (Or.inl rfl) 2 rfl (by decide) (by decide) dX10_init_42 (w1 := [(q, .inr (2, [.ref o0, .ref v2, .null, .int 0])), (o0, .inr (0, [.ref r1, .int 0, .int 0, .int 0, .int 0, .int 0, .int 0])), (r1, arI (Q 0) 100 (fun _ => 0)), (v2, arR (Q 1) 4 (va_up (va_up (va_up (fun _ => none) 0 (some o3)) 1 (some o5)) 2 (some o7))), (o3, .inr (1, [.ref r4, .int (-1)])), (r4, arI (Q 0) 8 (fun _ => 0)), (o5, .inr (1, [.ref r6, .int (-1)])), (r6, arI (Q 0) 8 (fun _ => 0)), (o7, .inr (1, [.ref r8, .int (-1)])), (r8, arI (Q 0) 8 (fun _ => 0))]) rfl (fun H locs hw => ?_)
  refine lv_iinc (v := 3) (lv' := [(1, .int 3), (0, .ref q)]) cx.x cx.b dX10_init_43 hl (k := 0) rfl rfl (by decide) rfl (fun ls hl => ?_)
  refine lv_goto (tgt := 25) cx.x cx.b dX10_init_46 (by decide) ?_
  refine lv_iload_n cx.x cx.b dX10_init_25 rfl (lv_at hl 0 rfl) ?_
  refine lv_iconst (v := 4) cx.x cx.b dX10_init_26 (by decide) ?_
  refine lv_icmp_ge (tgt := 49) cx.x cx.b dX10_init_27 (by decide) (fun h9 => absurd h9 (by decide)) (fun _ => ?_)
  refine lv_aload_n cx.x cx.b dX10_init_30 rfl (lv_at hl 1 rfl) ?_
  refine gt_f (v := .ref v2) (a := q) (ci := 2) (fs := [.ref o0, .ref v2, .null, .int 0]) cx hw 0 rfl rfl inX10 1 (by decide) tw_86 ⟨rfl, rfl, Or.inl rfl⟩ rfl dX10_init_31 ?_
  refine lv_iload_n cx.x cx.b dX10_init_34 rfl (lv_at hl 0 rfl) ?_
  refine nw_o (ci := 1) (fs := [.null, .int 0]) cx hw rfl inX7 tyX7 tyX7_ok tw_68 tw_70 tw_3 (by decide +kernel) (Nat.le_of_ble_eq_true rfl) (Nat.le_of_ble_eq_true rfl) dX10_init_35 (fun o9 H hw => ?_)
  refine lv_dup cx.x cx.b dX10_init_38 rfl ?_
  refine cgoF_v cx hw (rIN_v (host := "BakeHouse") (n := 0) (As := []) (rest := [.ref o9, .int 3, .ref v2]) cx hw.r (c_X7_init l D Q o9) (by decide +kernel) tw_72 tw_3 tw_73 rfl ⟨by decide +kernel, rfl, hl.1, (Nat.le_of_ble_eq_true rfl), ⟨(Nat.le_of_ble_eq_true rfl), (Nat.le_of_ble_eq_true rfl)⟩, ⟨(Nat.le_of_ble_eq_true rfl), (Nat.le_of_ble_eq_true rfl)⟩, rfl, rfl⟩ rfl dX10_init_39) (fun r10 H locs _ hw => ?_)
  have hw : Wd D cls A s H _ ([(q, .inr (2, [.ref o0, .ref v2, .null, .int 0])), (o0, .inr (0, [.ref r1, .int 0, .int 0, .int 0, .int 0, .int 0, .int 0])), (r1, arI (Q 0) 100 (fun _ => 0)), (v2, arR (Q 1) 4 (va_up (va_up (va_up (fun _ => none) 0 (some o3)) 1 (some o5)) 2 (some o7))), (o3, .inr (1, [.ref r4, .int (-1)])), (r4, arI (Q 0) 8 (fun _ => 0)), (o5, .inr (1, [.ref r6, .int (-1)])), (r6, arI (Q 0) 8 (fun _ => 0)), (o7, .inr (1, [.ref r8, .int (-1)])), (r8, arI (Q 0) 8 (fun _ => 0)), (o9, .inr (1, [.ref r10, .int (-1)])), (r10, arI (Q 0) 8 (fun _ => 0))]) := hw
  refine ast_r (v := o9) (ci := 1) cx hw 3 1 10 rfl rfl (vs := [.ref r10, .int (-1)]) rfl rfl (Or.inl rfl) 3 rfl (by decide) (by decide) dX10_init_42 (w1 := [(q, .inr (2, [.ref o0, .ref v2, .null, .int 0])), (o0, .inr (0, [.ref r1, .int 0, .int 0, .int 0, .int 0, .int 0, .int 0])), (r1, arI (Q 0) 100 (fun _ => 0)), (v2, arR (Q 1) 4 (va_up (va_up (va_up (va_up (fun _ => none) 0 (some o3)) 1 (some o5)) 2 (some o7)) 3 (some o9))), (o3, .inr (1, [.ref r4, .int (-1)])), (r4, arI (Q 0) 8 (fun _ => 0)), (o5, .inr (1, [.ref r6, .int (-1)])), (r6, arI (Q 0) 8 (fun _ => 0)), (o7, .inr (1, [.ref r8, .int (-1)])), (r8, arI (Q 0) 8 (fun _ => 0)), (o9, .inr (1, [.ref r10, .int (-1)])), (r10, arI (Q 0) 8 (fun _ => 0))]) rfl (fun H locs hw => ?_)
  refine lv_iinc (v := 4) (lv' := [(1, .int 4), (0, .ref q)]) cx.x cx.b dX10_init_43 hl (k := 0) rfl rfl (by decide) rfl (fun ls hl => ?_)
  refine lv_goto (tgt := 25) cx.x cx.b dX10_init_46 (by decide) ?_
  refine lv_iload_n cx.x cx.b dX10_init_25 rfl (lv_at hl 0 rfl) ?_
  refine lv_iconst (v := 4) cx.x cx.b dX10_init_26 (by decide) ?_
  refine lv_icmp_ge (tgt := 49) cx.x cx.b dX10_init_27 (by decide) (fun _ => ?_) (fun h9 => absurd h9 (by decide))
  refine lv_aload_n cx.x cx.b dX10_init_49 rfl (lv_at hl 1 rfl) ?_
  refine lv_bipush (v := 20) cx.x cx.b dX10_init_50 (by decide) ?_
  refine nw_q (N := 20) (j := 2) cx hw rfl tw_83 cx.ev.2.2.2.2.2.2.1 (by decide) rfl (by decide) (Nat.le_of_ble_eq_true rfl) (Nat.le_of_ble_eq_true rfl) dX10_init_52 (fun v11 H hw => ?_)
  have hw : Wd D cls A s H _ ([(q, .inr (2, [.ref o0, .ref v2, .null, .int 0])), (o0, .inr (0, [.ref r1, .int 0, .int 0, .int 0, .int 0, .int 0, .int 0])), (r1, arI (Q 0) 100 (fun _ => 0)), (v2, arR (Q 1) 4 (va_up (va_up (va_up (va_up (fun _ => none) 0 (some o3)) 1 (some o5)) 2 (some o7)) 3 (some o9))), (o3, .inr (1, [.ref r4, .int (-1)])), (r4, arI (Q 0) 8 (fun _ => 0)), (o5, .inr (1, [.ref r6, .int (-1)])), (r6, arI (Q 0) 8 (fun _ => 0)), (o7, .inr (1, [.ref r8, .int (-1)])), (r8, arI (Q 0) 8 (fun _ => 0)), (o9, .inr (1, [.ref r10, .int (-1)])), (r10, arI (Q 0) 8 (fun _ => 0)), (v11, arR (Q 2) 20 (fun _ => none))]) := hw
  refine ptF_f cx hin2 hw 0 (a := q) (ci := 2) (fs := [.ref o0, .ref v2, .null, .int 0]) rfl rfl inX10 tyX10 tyX10_ok nmX10 2 (by decide) tw_87 ⟨rfl, rfl, rfl, rfl⟩ rfl rfl rfl rfl (Nat.le_of_ble_eq_true rfl) dX10_init_55 (w1 := [(q, .inr (2, [.ref o0, .ref v2, .ref v11, .int 0])), (o0, .inr (0, [.ref r1, .int 0, .int 0, .int 0, .int 0, .int 0, .int 0])), (r1, arI (Q 0) 100 (fun _ => 0)), (v2, arR (Q 1) 4 (va_up (va_up (va_up (va_up (fun _ => none) 0 (some o3)) 1 (some o5)) 2 (some o7)) 3 (some o9))), (o3, .inr (1, [.ref r4, .int (-1)])), (r4, arI (Q 0) 8 (fun _ => 0)), (o5, .inr (1, [.ref r6, .int (-1)])), (r6, arI (Q 0) 8 (fun _ => 0)), (o7, .inr (1, [.ref r8, .int (-1)])), (r8, arI (Q 0) 8 (fun _ => 0)), (o9, .inr (1, [.ref r10, .int (-1)])), (r10, arI (Q 0) 8 (fun _ => 0)), (v11, arR (Q 2) 20 (fun _ => none))]) rfl (fun H locs hw => ?_)
  refine lv_aload_n cx.x cx.b dX10_init_58 rfl (lv_at hl 1 rfl) ?_
  refine lv_iconst (v := 0) cx.x cx.b dX10_init_59 (by decide) ?_
  refine pt_f cx hw 0 (a := q) (ci := 2) (fs := [.ref o0, .ref v2, .ref v11, .int 0]) rfl rfl inX10 tyX10 tyX10_ok nmX10 3 (by decide) tw_88 ⟨rfl, rfl, Or.inl rfl⟩ rfl rfl rfl rfl (Nat.le_of_ble_eq_true rfl) dX10_init_60 (w1 := [(q, .inr (2, [.ref o0, .ref v2, .ref v11, .int 0])), (o0, .inr (0, [.ref r1, .int 0, .int 0, .int 0, .int 0, .int 0, .int 0])), (r1, arI (Q 0) 100 (fun _ => 0)), (v2, arR (Q 1) 4 (va_up (va_up (va_up (va_up (fun _ => none) 0 (some o3)) 1 (some o5)) 2 (some o7)) 3 (some o9))), (o3, .inr (1, [.ref r4, .int (-1)])), (r4, arI (Q 0) 8 (fun _ => 0)), (o5, .inr (1, [.ref r6, .int (-1)])), (r6, arI (Q 0) 8 (fun _ => 0)), (o7, .inr (1, [.ref r8, .int (-1)])), (r8, arI (Q 0) 8 (fun _ => 0)), (o9, .inr (1, [.ref r10, .int (-1)])), (r10, arI (Q 0) 8 (fun _ => 0)), (v11, arR (Q 2) 20 (fun _ => none))]) rfl (fun H locs hw => ?_)
  rw [ov_4 (a := o3) (b := o5) (c := o7) (d := o9) (G := gL [q, o0, r1, v2, v11, o3, o5, o7, o9, r4, r6, r8, r10]) rfl rfl rfl rfl, lv_0] at hw
  have hw := hw.perm (w1 := kw (gL [q, o0, r1, v2, v11, o3, o5, o7, o9, r4, r6, r8, r10]) Q σ0) [0, 1, 2, 3, 12, 4, 6, 8, 10, 5, 7, 9, 11] rfl rfl
  exact ret_v (gL [q, o0, r1, v2, v11, o3, o5, o7, o9, r4, r6, r8, r10]) cx hw rfl dX10_init_63 (Nat.le_of_ble_eq_true rfl) (Nat.le_of_ble_eq_true rfl)
set_option maxHeartbeats 4000000 in
set_option maxRecDepth 100000 in
theorem c_X11_init (l : Launch) (D : va_G) (Q : Nat → ClassId) (q : Nat) : MV l yX11_init cX11_init 2 ({ frames := 1, cells := 9, slots := 256, locals := 20 }) D cls (tyl Q) [.ref q] (fun M : Nat → Nat => mw M Q (σ0, 0, 0, 0)) [(q, .inr (3, [.int 0, .int 0, .null, .null, .null, .null, .null, .null, .null, .null, .null, .int 0, .int 0, .int 0, .int 0, .int 0, .int 0]))] (fun M => M 0 = q) 9 256 := by
  refine MVi_of (by decide) rfl (Nat.le_of_ble_eq_true rfl) ?_
  intro p e s m args below meth c A ls hin2 cx hw hl
  have hl : lv_has ls 2 [(0, .ref q)] := hl
  refine lv_aload_n cx.x cx.b dX11_init_0 rfl (lv_at hl 0 rfl) ?_
  refine W.objInit cx.x cx.b cx.ow (cx.ts _ tw_756) (cx.ts _ tw_30) (cx.ts _ tw_31) rfl (hl.1.trans cx.ml.symm) rfl dX11_init_1 (Nat.le_of_ble_eq_true rfl) (Nat.le_of_ble_eq_true rfl) ?_
  refine W.eq (g2 := F0 m 4 ls []) rfl ?_
  refine lv_aload_n cx.x cx.b dX11_init_4 rfl (lv_at hl 0 rfl) ?_
  refine lv_bipush (v := 20) cx.x cx.b dX11_init_5 (by decide) ?_
  refine nw_i (N := 20) cx hw (by decide) rfl (by decide) (Nat.le_of_ble_eq_true rfl) (Nat.le_of_ble_eq_true rfl) dX11_init_7 (fun a0 H hw => ?_)
  have hw : Wd D cls A s H _ ([(q, .inr (3, [.int 0, .int 0, .null, .null, .null, .null, .null, .null, .null, .null, .null, .int 0, .int 0, .int 0, .int 0, .int 0, .int 0])), (a0, arI (Q 0) 20 (fun _ => 0))]) := hw
  refine ptF_f cx hin2 hw 0 (a := q) (ci := 3) (fs := [.int 0, .int 0, .null, .null, .null, .null, .null, .null, .null, .null, .null, .int 0, .int 0, .int 0, .int 0, .int 0, .int 0]) rfl rfl inX11 tyX11 tyX11_ok nmX11 2 (by decide) tw_759 ⟨rfl, rfl, rfl, rfl⟩ rfl rfl rfl rfl (Nat.le_of_ble_eq_true rfl) dX11_init_9 (w1 := [(q, .inr (3, [.int 0, .int 0, .ref a0, .null, .null, .null, .null, .null, .null, .null, .null, .int 0, .int 0, .int 0, .int 0, .int 0, .int 0])), (a0, arI (Q 0) 20 (fun _ => 0))]) rfl (fun H locs hw => ?_)
  refine lv_aload_n cx.x cx.b dX11_init_12 rfl (lv_at hl 0 rfl) ?_
  refine lv_bipush (v := 20) cx.x cx.b dX11_init_13 (by decide) ?_
  refine nw_i (N := 20) cx hw (by decide) rfl (by decide) (Nat.le_of_ble_eq_true rfl) (Nat.le_of_ble_eq_true rfl) dX11_init_15 (fun a1 H hw => ?_)
  have hw : Wd D cls A s H _ ([(q, .inr (3, [.int 0, .int 0, .ref a0, .null, .null, .null, .null, .null, .null, .null, .null, .int 0, .int 0, .int 0, .int 0, .int 0, .int 0])), (a0, arI (Q 0) 20 (fun _ => 0)), (a1, arI (Q 0) 20 (fun _ => 0))]) := hw
  refine ptF_f cx hin2 hw 0 (a := q) (ci := 3) (fs := [.int 0, .int 0, .ref a0, .null, .null, .null, .null, .null, .null, .null, .null, .int 0, .int 0, .int 0, .int 0, .int 0, .int 0]) rfl rfl inX11 tyX11 tyX11_ok nmX11 3 (by decide) tw_760 ⟨rfl, rfl, rfl, rfl⟩ rfl rfl rfl rfl (Nat.le_of_ble_eq_true rfl) dX11_init_17 (w1 := [(q, .inr (3, [.int 0, .int 0, .ref a0, .ref a1, .null, .null, .null, .null, .null, .null, .null, .int 0, .int 0, .int 0, .int 0, .int 0, .int 0])), (a0, arI (Q 0) 20 (fun _ => 0)), (a1, arI (Q 0) 20 (fun _ => 0))]) rfl (fun H locs hw => ?_)
  refine lv_aload_n cx.x cx.b dX11_init_20 rfl (lv_at hl 0 rfl) ?_
  refine lv_bipush (v := 20) cx.x cx.b dX11_init_21 (by decide) ?_
  refine nw_i (N := 20) cx hw (by decide) rfl (by decide) (Nat.le_of_ble_eq_true rfl) (Nat.le_of_ble_eq_true rfl) dX11_init_23 (fun a2 H hw => ?_)
  have hw : Wd D cls A s H _ ([(q, .inr (3, [.int 0, .int 0, .ref a0, .ref a1, .null, .null, .null, .null, .null, .null, .null, .int 0, .int 0, .int 0, .int 0, .int 0, .int 0])), (a0, arI (Q 0) 20 (fun _ => 0)), (a1, arI (Q 0) 20 (fun _ => 0)), (a2, arI (Q 0) 20 (fun _ => 0))]) := hw
  refine ptF_f cx hin2 hw 0 (a := q) (ci := 3) (fs := [.int 0, .int 0, .ref a0, .ref a1, .null, .null, .null, .null, .null, .null, .null, .int 0, .int 0, .int 0, .int 0, .int 0, .int 0]) rfl rfl inX11 tyX11 tyX11_ok nmX11 4 (by decide) tw_761 ⟨rfl, rfl, rfl, rfl⟩ rfl rfl rfl rfl (Nat.le_of_ble_eq_true rfl) dX11_init_25 (w1 := [(q, .inr (3, [.int 0, .int 0, .ref a0, .ref a1, .ref a2, .null, .null, .null, .null, .null, .null, .int 0, .int 0, .int 0, .int 0, .int 0, .int 0])), (a0, arI (Q 0) 20 (fun _ => 0)), (a1, arI (Q 0) 20 (fun _ => 0)), (a2, arI (Q 0) 20 (fun _ => 0))]) rfl (fun H locs hw => ?_)
  refine lv_aload_n cx.x cx.b dX11_init_28 rfl (lv_at hl 0 rfl) ?_
  refine lv_bipush (v := 20) cx.x cx.b dX11_init_29 (by decide) ?_
  refine nw_i (N := 20) cx hw (by decide) rfl (by decide) (Nat.le_of_ble_eq_true rfl) (Nat.le_of_ble_eq_true rfl) dX11_init_31 (fun a3 H hw => ?_)
  have hw : Wd D cls A s H _ ([(q, .inr (3, [.int 0, .int 0, .ref a0, .ref a1, .ref a2, .null, .null, .null, .null, .null, .null, .int 0, .int 0, .int 0, .int 0, .int 0, .int 0])), (a0, arI (Q 0) 20 (fun _ => 0)), (a1, arI (Q 0) 20 (fun _ => 0)), (a2, arI (Q 0) 20 (fun _ => 0)), (a3, arI (Q 0) 20 (fun _ => 0))]) := hw
  refine ptF_f cx hin2 hw 0 (a := q) (ci := 3) (fs := [.int 0, .int 0, .ref a0, .ref a1, .ref a2, .null, .null, .null, .null, .null, .null, .int 0, .int 0, .int 0, .int 0, .int 0, .int 0]) rfl rfl inX11 tyX11 tyX11_ok nmX11 5 (by decide) tw_762 ⟨rfl, rfl, rfl, rfl⟩ rfl rfl rfl rfl (Nat.le_of_ble_eq_true rfl) dX11_init_33 (w1 := [(q, .inr (3, [.int 0, .int 0, .ref a0, .ref a1, .ref a2, .ref a3, .null, .null, .null, .null, .null, .int 0, .int 0, .int 0, .int 0, .int 0, .int 0])), (a0, arI (Q 0) 20 (fun _ => 0)), (a1, arI (Q 0) 20 (fun _ => 0)), (a2, arI (Q 0) 20 (fun _ => 0)), (a3, arI (Q 0) 20 (fun _ => 0))]) rfl (fun H locs hw => ?_)
  refine lv_aload_n cx.x cx.b dX11_init_36 rfl (lv_at hl 0 rfl) ?_
  refine lv_bipush (v := 20) cx.x cx.b dX11_init_37 (by decide) ?_
  refine nw_i (N := 20) cx hw (by decide) rfl (by decide) (Nat.le_of_ble_eq_true rfl) (Nat.le_of_ble_eq_true rfl) dX11_init_39 (fun a4 H hw => ?_)
  have hw : Wd D cls A s H _ ([(q, .inr (3, [.int 0, .int 0, .ref a0, .ref a1, .ref a2, .ref a3, .null, .null, .null, .null, .null, .int 0, .int 0, .int 0, .int 0, .int 0, .int 0])), (a0, arI (Q 0) 20 (fun _ => 0)), (a1, arI (Q 0) 20 (fun _ => 0)), (a2, arI (Q 0) 20 (fun _ => 0)), (a3, arI (Q 0) 20 (fun _ => 0)), (a4, arI (Q 0) 20 (fun _ => 0))]) := hw
  refine ptF_f cx hin2 hw 0 (a := q) (ci := 3) (fs := [.int 0, .int 0, .ref a0, .ref a1, .ref a2, .ref a3, .null, .null, .null, .null, .null, .int 0, .int 0, .int 0, .int 0, .int 0, .int 0]) rfl rfl inX11 tyX11 tyX11_ok nmX11 6 (by decide) tw_763 ⟨rfl, rfl, rfl, rfl⟩ rfl rfl rfl rfl (Nat.le_of_ble_eq_true rfl) dX11_init_41 (w1 := [(q, .inr (3, [.int 0, .int 0, .ref a0, .ref a1, .ref a2, .ref a3, .ref a4, .null, .null, .null, .null, .int 0, .int 0, .int 0, .int 0, .int 0, .int 0])), (a0, arI (Q 0) 20 (fun _ => 0)), (a1, arI (Q 0) 20 (fun _ => 0)), (a2, arI (Q 0) 20 (fun _ => 0)), (a3, arI (Q 0) 20 (fun _ => 0)), (a4, arI (Q 0) 20 (fun _ => 0))]) rfl (fun H locs hw => ?_)
  refine lv_aload_n cx.x cx.b dX11_init_44 rfl (lv_at hl 0 rfl) ?_
  refine lv_bipush (v := 20) cx.x cx.b dX11_init_45 (by decide) ?_
  refine nw_i (N := 20) cx hw (by decide) rfl (by decide) (Nat.le_of_ble_eq_true rfl) (Nat.le_of_ble_eq_true rfl) dX11_init_47 (fun a5 H hw => ?_)
  have hw : Wd D cls A s H _ ([(q, .inr (3, [.int 0, .int 0, .ref a0, .ref a1, .ref a2, .ref a3, .ref a4, .null, .null, .null, .null, .int 0, .int 0, .int 0, .int 0, .int 0, .int 0])), (a0, arI (Q 0) 20 (fun _ => 0)), (a1, arI (Q 0) 20 (fun _ => 0)), (a2, arI (Q 0) 20 (fun _ => 0)), (a3, arI (Q 0) 20 (fun _ => 0)), (a4, arI (Q 0) 20 (fun _ => 0)), (a5, arI (Q 0) 20 (fun _ => 0))]) := hw
  refine ptF_f cx hin2 hw 0 (a := q) (ci := 3) (fs := [.int 0, .int 0, .ref a0, .ref a1, .ref a2, .ref a3, .ref a4, .null, .null, .null, .null, .int 0, .int 0, .int 0, .int 0, .int 0, .int 0]) rfl rfl inX11 tyX11 tyX11_ok nmX11 7 (by decide) tw_764 ⟨rfl, rfl, rfl, rfl⟩ rfl rfl rfl rfl (Nat.le_of_ble_eq_true rfl) dX11_init_49 (w1 := [(q, .inr (3, [.int 0, .int 0, .ref a0, .ref a1, .ref a2, .ref a3, .ref a4, .ref a5, .null, .null, .null, .int 0, .int 0, .int 0, .int 0, .int 0, .int 0])), (a0, arI (Q 0) 20 (fun _ => 0)), (a1, arI (Q 0) 20 (fun _ => 0)), (a2, arI (Q 0) 20 (fun _ => 0)), (a3, arI (Q 0) 20 (fun _ => 0)), (a4, arI (Q 0) 20 (fun _ => 0)), (a5, arI (Q 0) 20 (fun _ => 0))]) rfl (fun H locs hw => ?_)
  refine lv_aload_n cx.x cx.b dX11_init_52 rfl (lv_at hl 0 rfl) ?_
  refine lv_iconst (v := 4) cx.x cx.b dX11_init_53 (by decide) ?_
  refine nw_i (N := 4) cx hw (by decide) rfl (by decide) (Nat.le_of_ble_eq_true rfl) (Nat.le_of_ble_eq_true rfl) dX11_init_54 (fun a6 H hw => ?_)
  have hw : Wd D cls A s H _ ([(q, .inr (3, [.int 0, .int 0, .ref a0, .ref a1, .ref a2, .ref a3, .ref a4, .ref a5, .null, .null, .null, .int 0, .int 0, .int 0, .int 0, .int 0, .int 0])), (a0, arI (Q 0) 20 (fun _ => 0)), (a1, arI (Q 0) 20 (fun _ => 0)), (a2, arI (Q 0) 20 (fun _ => 0)), (a3, arI (Q 0) 20 (fun _ => 0)), (a4, arI (Q 0) 20 (fun _ => 0)), (a5, arI (Q 0) 20 (fun _ => 0)), (a6, arI (Q 0) 4 (fun _ => 0))]) := hw
  refine ptF_f cx hin2 hw 0 (a := q) (ci := 3) (fs := [.int 0, .int 0, .ref a0, .ref a1, .ref a2, .ref a3, .ref a4, .ref a5, .null, .null, .null, .int 0, .int 0, .int 0, .int 0, .int 0, .int 0]) rfl rfl inX11 tyX11 tyX11_ok nmX11 8 (by decide) tw_765 ⟨rfl, rfl, rfl, rfl⟩ rfl rfl rfl rfl (Nat.le_of_ble_eq_true rfl) dX11_init_56 (w1 := [(q, .inr (3, [.int 0, .int 0, .ref a0, .ref a1, .ref a2, .ref a3, .ref a4, .ref a5, .ref a6, .null, .null, .int 0, .int 0, .int 0, .int 0, .int 0, .int 0])), (a0, arI (Q 0) 20 (fun _ => 0)), (a1, arI (Q 0) 20 (fun _ => 0)), (a2, arI (Q 0) 20 (fun _ => 0)), (a3, arI (Q 0) 20 (fun _ => 0)), (a4, arI (Q 0) 20 (fun _ => 0)), (a5, arI (Q 0) 20 (fun _ => 0)), (a6, arI (Q 0) 4 (fun _ => 0))]) rfl (fun H locs hw => ?_)
  refine lv_aload_n cx.x cx.b dX11_init_59 rfl (lv_at hl 0 rfl) ?_
  refine lv_bipush (v := 32) cx.x cx.b dX11_init_60 (by decide) ?_
  refine nw_i (N := 32) cx hw (by decide) rfl (by decide) (Nat.le_of_ble_eq_true rfl) (Nat.le_of_ble_eq_true rfl) dX11_init_62 (fun a7 H hw => ?_)
  have hw : Wd D cls A s H _ ([(q, .inr (3, [.int 0, .int 0, .ref a0, .ref a1, .ref a2, .ref a3, .ref a4, .ref a5, .ref a6, .null, .null, .int 0, .int 0, .int 0, .int 0, .int 0, .int 0])), (a0, arI (Q 0) 20 (fun _ => 0)), (a1, arI (Q 0) 20 (fun _ => 0)), (a2, arI (Q 0) 20 (fun _ => 0)), (a3, arI (Q 0) 20 (fun _ => 0)), (a4, arI (Q 0) 20 (fun _ => 0)), (a5, arI (Q 0) 20 (fun _ => 0)), (a6, arI (Q 0) 4 (fun _ => 0)), (a7, arI (Q 0) 32 (fun _ => 0))]) := hw
  refine ptF_f cx hin2 hw 0 (a := q) (ci := 3) (fs := [.int 0, .int 0, .ref a0, .ref a1, .ref a2, .ref a3, .ref a4, .ref a5, .ref a6, .null, .null, .int 0, .int 0, .int 0, .int 0, .int 0, .int 0]) rfl rfl inX11 tyX11 tyX11_ok nmX11 9 (by decide) tw_766 ⟨rfl, rfl, rfl, rfl⟩ rfl rfl rfl rfl (Nat.le_of_ble_eq_true rfl) dX11_init_64 (w1 := [(q, .inr (3, [.int 0, .int 0, .ref a0, .ref a1, .ref a2, .ref a3, .ref a4, .ref a5, .ref a6, .ref a7, .null, .int 0, .int 0, .int 0, .int 0, .int 0, .int 0])), (a0, arI (Q 0) 20 (fun _ => 0)), (a1, arI (Q 0) 20 (fun _ => 0)), (a2, arI (Q 0) 20 (fun _ => 0)), (a3, arI (Q 0) 20 (fun _ => 0)), (a4, arI (Q 0) 20 (fun _ => 0)), (a5, arI (Q 0) 20 (fun _ => 0)), (a6, arI (Q 0) 4 (fun _ => 0)), (a7, arI (Q 0) 32 (fun _ => 0))]) rfl (fun H locs hw => ?_)
  refine lv_aload_n cx.x cx.b dX11_init_67 rfl (lv_at hl 0 rfl) ?_
  refine lv_bipush (v := 100) cx.x cx.b dX11_init_68 (by decide) ?_
  refine nw_i (N := 100) cx hw (by decide) rfl (by decide) (Nat.le_of_ble_eq_true rfl) (Nat.le_of_ble_eq_true rfl) dX11_init_70 (fun a8 H hw => ?_)
  have hw : Wd D cls A s H _ ([(q, .inr (3, [.int 0, .int 0, .ref a0, .ref a1, .ref a2, .ref a3, .ref a4, .ref a5, .ref a6, .ref a7, .null, .int 0, .int 0, .int 0, .int 0, .int 0, .int 0])), (a0, arI (Q 0) 20 (fun _ => 0)), (a1, arI (Q 0) 20 (fun _ => 0)), (a2, arI (Q 0) 20 (fun _ => 0)), (a3, arI (Q 0) 20 (fun _ => 0)), (a4, arI (Q 0) 20 (fun _ => 0)), (a5, arI (Q 0) 20 (fun _ => 0)), (a6, arI (Q 0) 4 (fun _ => 0)), (a7, arI (Q 0) 32 (fun _ => 0)), (a8, arI (Q 0) 100 (fun _ => 0))]) := hw
  refine ptF_f cx hin2 hw 0 (a := q) (ci := 3) (fs := [.int 0, .int 0, .ref a0, .ref a1, .ref a2, .ref a3, .ref a4, .ref a5, .ref a6, .ref a7, .null, .int 0, .int 0, .int 0, .int 0, .int 0, .int 0]) rfl rfl inX11 tyX11 tyX11_ok nmX11 10 (by decide) tw_767 ⟨rfl, rfl, rfl, rfl⟩ rfl rfl rfl rfl (Nat.le_of_ble_eq_true rfl) dX11_init_72 (w1 := [(q, .inr (3, [.int 0, .int 0, .ref a0, .ref a1, .ref a2, .ref a3, .ref a4, .ref a5, .ref a6, .ref a7, .ref a8, .int 0, .int 0, .int 0, .int 0, .int 0, .int 0])), (a0, arI (Q 0) 20 (fun _ => 0)), (a1, arI (Q 0) 20 (fun _ => 0)), (a2, arI (Q 0) 20 (fun _ => 0)), (a3, arI (Q 0) 20 (fun _ => 0)), (a4, arI (Q 0) 20 (fun _ => 0)), (a5, arI (Q 0) 20 (fun _ => 0)), (a6, arI (Q 0) 4 (fun _ => 0)), (a7, arI (Q 0) 32 (fun _ => 0)), (a8, arI (Q 0) 100 (fun _ => 0))]) rfl (fun H locs hw => ?_)
  refine lv_iconst (v := 0) cx.x cx.b dX11_init_75 (by decide) ?_
  refine lv_istore_n (lv' := [(1, .int 0), (0, .ref q)]) cx.x cx.b dX11_init_76 rfl hl (by decide) rfl (fun ls hl => ?_)
  refine lv_iload_n cx.x cx.b dX11_init_77 rfl (lv_at hl 0 rfl) ?_
  refine lv_iconst (v := 4) cx.x cx.b dX11_init_78 (by decide) ?_
  refine lv_icmp_ge (tgt := 95) cx.x cx.b dX11_init_79 (by decide) (fun h9 => absurd h9 (by decide)) (fun _ => ?_)
  refine lv_aload_n cx.x cx.b dX11_init_82 rfl (lv_at hl 1 rfl) ?_
  refine gt_f (v := .ref a6) (a := q) (ci := 3) (fs := [.int 0, .int 0, .ref a0, .ref a1, .ref a2, .ref a3, .ref a4, .ref a5, .ref a6, .ref a7, .ref a8, .int 0, .int 0, .int 0, .int 0, .int 0, .int 0]) cx hw 0 rfl rfl inX11 8 (by decide) tw_765 ⟨rfl, rfl, Or.inl rfl⟩ rfl dX11_init_83 ?_
  refine lv_iload_n cx.x cx.b dX11_init_86 rfl (lv_at hl 0 rfl) ?_
  refine lv_iconst (v := (-1)) cx.x cx.b dX11_init_87 (by decide) ?_
  refine ast_i (f := fun _ => 0) cx hw 7 0 rfl rfl 0 rfl (by decide) (by decide) dX11_init_88 (w1 := [(q, .inr (3, [.int 0, .int 0, .ref a0, .ref a1, .ref a2, .ref a3, .ref a4, .ref a5, .ref a6, .ref a7, .ref a8, .int 0, .int 0, .int 0, .int 0, .int 0, .int 0])), (a0, arI (Q 0) 20 (fun _ => 0)), (a1, arI (Q 0) 20 (fun _ => 0)), (a2, arI (Q 0) 20 (fun _ => 0)), (a3, arI (Q 0) 20 (fun _ => 0)), (a4, arI (Q 0) 20 (fun _ => 0)), (a5, arI (Q 0) 20 (fun _ => 0)), (a6, arI (Q 0) 4 (upd (fun _ => 0) 0 (-1))), (a7, arI (Q 0) 32 (fun _ => 0)), (a8, arI (Q 0) 100 (fun _ => 0))]) rfl (fun H locs hw => ?_)
  refine lv_iinc (v := 1) (lv' := [(1, .int 1), (0, .ref q)]) cx.x cx.b dX11_init_89 hl (k := 0) rfl rfl (by decide) rfl (fun ls hl => ?_)
  refine lv_goto (tgt := 77) cx.x cx.b dX11_init_92 (by decide) ?_
  refine lv_iload_n cx.x cx.b dX11_init_77 rfl (lv_at hl 0 rfl) ?_
  refine lv_iconst (v := 4) cx.x cx.b dX11_init_78 (by decide) ?_
  refine lv_icmp_ge (tgt := 95) cx.x cx.b dX11_init_79 (by decide) (fun h9 => absurd h9 (by decide)) (fun _ => ?_)
  refine lv_aload_n cx.x cx.b dX11_init_82 rfl (lv_at hl 1 rfl) ?_
  refine gt_f (v := .ref a6) (a := q) (ci := 3) (fs := [.int 0, .int 0, .ref a0, .ref a1, .ref a2, .ref a3, .ref a4, .ref a5, .ref a6, .ref a7, .ref a8, .int 0, .int 0, .int 0, .int 0, .int 0, .int 0]) cx hw 0 rfl rfl inX11 8 (by decide) tw_765 ⟨rfl, rfl, Or.inl rfl⟩ rfl dX11_init_83 ?_
  refine lv_iload_n cx.x cx.b dX11_init_86 rfl (lv_at hl 0 rfl) ?_
  refine lv_iconst (v := (-1)) cx.x cx.b dX11_init_87 (by decide) ?_
  refine ast_i (f := upd (fun _ => 0) 0 (-1)) cx hw 7 0 rfl rfl 1 rfl (by decide) (by decide) dX11_init_88 (w1 := [(q, .inr (3, [.int 0, .int 0, .ref a0, .ref a1, .ref a2, .ref a3, .ref a4, .ref a5, .ref a6, .ref a7, .ref a8, .int 0, .int 0, .int 0, .int 0, .int 0, .int 0])), (a0, arI (Q 0) 20 (fun _ => 0)), (a1, arI (Q 0) 20 (fun _ => 0)), (a2, arI (Q 0) 20 (fun _ => 0)), (a3, arI (Q 0) 20 (fun _ => 0)), (a4, arI (Q 0) 20 (fun _ => 0)), (a5, arI (Q 0) 20 (fun _ => 0)), (a6, arI (Q 0) 4 (upd (upd (fun _ => 0) 0 (-1)) 1 (-1))), (a7, arI (Q 0) 32 (fun _ => 0)), (a8, arI (Q 0) 100 (fun _ => 0))]) rfl (fun H locs hw => ?_)
  refine lv_iinc (v := 2) (lv' := [(1, .int 2), (0, .ref q)]) cx.x cx.b dX11_init_89 hl (k := 0) rfl rfl (by decide) rfl (fun ls hl => ?_)
  refine lv_goto (tgt := 77) cx.x cx.b dX11_init_92 (by decide) ?_
  refine lv_iload_n cx.x cx.b dX11_init_77 rfl (lv_at hl 0 rfl) ?_
  refine lv_iconst (v := 4) cx.x cx.b dX11_init_78 (by decide) ?_
  refine lv_icmp_ge (tgt := 95) cx.x cx.b dX11_init_79 (by decide) (fun h9 => absurd h9 (by decide)) (fun _ => ?_)
  refine lv_aload_n cx.x cx.b dX11_init_82 rfl (lv_at hl 1 rfl) ?_
  refine gt_f (v := .ref a6) (a := q) (ci := 3) (fs := [.int 0, .int 0, .ref a0, .ref a1, .ref a2, .ref a3, .ref a4, .ref a5, .ref a6, .ref a7, .ref a8, .int 0, .int 0, .int 0, .int 0, .int 0, .int 0]) cx hw 0 rfl rfl inX11 8 (by decide) tw_765 ⟨rfl, rfl, Or.inl rfl⟩ rfl dX11_init_83 ?_
  refine lv_iload_n cx.x cx.b dX11_init_86 rfl (lv_at hl 0 rfl) ?_
  refine lv_iconst (v := (-1)) cx.x cx.b dX11_init_87 (by decide) ?_
  refine ast_i (f := upd (upd (fun _ => 0) 0 (-1)) 1 (-1)) cx hw 7 0 rfl rfl 2 rfl (by decide) (by decide) dX11_init_88 (w1 := [(q, .inr (3, [.int 0, .int 0, .ref a0, .ref a1, .ref a2, .ref a3, .ref a4, .ref a5, .ref a6, .ref a7, .ref a8, .int 0, .int 0, .int 0, .int 0, .int 0, .int 0])), (a0, arI (Q 0) 20 (fun _ => 0)), (a1, arI (Q 0) 20 (fun _ => 0)), (a2, arI (Q 0) 20 (fun _ => 0)), (a3, arI (Q 0) 20 (fun _ => 0)), (a4, arI (Q 0) 20 (fun _ => 0)), (a5, arI (Q 0) 20 (fun _ => 0)), (a6, arI (Q 0) 4 (upd (upd (upd (fun _ => 0) 0 (-1)) 1 (-1)) 2 (-1))), (a7, arI (Q 0) 32 (fun _ => 0)), (a8, arI (Q 0) 100 (fun _ => 0))]) rfl (fun H locs hw => ?_)
  refine lv_iinc (v := 3) (lv' := [(1, .int 3), (0, .ref q)]) cx.x cx.b dX11_init_89 hl (k := 0) rfl rfl (by decide) rfl (fun ls hl => ?_)
  refine lv_goto (tgt := 77) cx.x cx.b dX11_init_92 (by decide) ?_
  refine lv_iload_n cx.x cx.b dX11_init_77 rfl (lv_at hl 0 rfl) ?_
  refine lv_iconst (v := 4) cx.x cx.b dX11_init_78 (by decide) ?_
  refine lv_icmp_ge (tgt := 95) cx.x cx.b dX11_init_79 (by decide) (fun h9 => absurd h9 (by decide)) (fun _ => ?_)
  refine lv_aload_n cx.x cx.b dX11_init_82 rfl (lv_at hl 1 rfl) ?_
  refine gt_f (v := .ref a6) (a := q) (ci := 3) (fs := [.int 0, .int 0, .ref a0, .ref a1, .ref a2, .ref a3, .ref a4, .ref a5, .ref a6, .ref a7, .ref a8, .int 0, .int 0, .int 0, .int 0, .int 0, .int 0]) cx hw 0 rfl rfl inX11 8 (by decide) tw_765 ⟨rfl, rfl, Or.inl rfl⟩ rfl dX11_init_83 ?_
  refine lv_iload_n cx.x cx.b dX11_init_86 rfl (lv_at hl 0 rfl) ?_
  refine lv_iconst (v := (-1)) cx.x cx.b dX11_init_87 (by decide) ?_
  refine ast_i (f := upd (upd (upd (fun _ => 0) 0 (-1)) 1 (-1)) 2 (-1)) cx hw 7 0 rfl rfl 3 rfl (by decide) (by decide) dX11_init_88 (w1 := [(q, .inr (3, [.int 0, .int 0, .ref a0, .ref a1, .ref a2, .ref a3, .ref a4, .ref a5, .ref a6, .ref a7, .ref a8, .int 0, .int 0, .int 0, .int 0, .int 0, .int 0])), (a0, arI (Q 0) 20 (fun _ => 0)), (a1, arI (Q 0) 20 (fun _ => 0)), (a2, arI (Q 0) 20 (fun _ => 0)), (a3, arI (Q 0) 20 (fun _ => 0)), (a4, arI (Q 0) 20 (fun _ => 0)), (a5, arI (Q 0) 20 (fun _ => 0)), (a6, arI (Q 0) 4 (upd (upd (upd (upd (fun _ => 0) 0 (-1)) 1 (-1)) 2 (-1)) 3 (-1))), (a7, arI (Q 0) 32 (fun _ => 0)), (a8, arI (Q 0) 100 (fun _ => 0))]) rfl (fun H locs hw => ?_)
  refine lv_iinc (v := 4) (lv' := [(1, .int 4), (0, .ref q)]) cx.x cx.b dX11_init_89 hl (k := 0) rfl rfl (by decide) rfl (fun ls hl => ?_)
  refine lv_goto (tgt := 77) cx.x cx.b dX11_init_92 (by decide) ?_
  refine lv_iload_n cx.x cx.b dX11_init_77 rfl (lv_at hl 0 rfl) ?_
  refine lv_iconst (v := 4) cx.x cx.b dX11_init_78 (by decide) ?_
  refine lv_icmp_ge (tgt := 95) cx.x cx.b dX11_init_79 (by decide) (fun _ => ?_) (fun h9 => absurd h9 (by decide))
  exact ret_v (w := fun M : Nat → Nat => mw M Q (σ0, 0, 0, 0)) (gL [q, a0, a1, a2, a3, a4, a5, a6, a7, a8]) cx hw rfl dX11_init_95 (Nat.le_of_ble_eq_true rfl) (Nat.le_of_ble_eq_true rfl)
