set_option maxHeartbeats 4000000 in
set_option maxRecDepth 100000 in
theorem c_X2_init (l : Launch) (D : va_G) (G : Nat → Nat) (Q : Nat → ClassId) (σ : St) (q kd : Nat) (hkd : kd < 8) (nu kn ma : Int32) : MV l yX2_init cX2_init 5 ({ frames := 1, cells := 0, slots := 0, locals := 20 }) D cls (tyl Q) [.ref q, .ref (G 1), .int nu, .int kn, .int ma] (kwX G Q σ q (4 + kd)) (kwX G Q σ q (4 + kd) dBlank) (fun u => u = dNew G nu kn ma) 0 0 := by
  refine MVi_of (by decide) rfl (Nat.le_of_ble_eq_true rfl) ?_
  intro p e s m args below meth c A ls hin2 cx hw hl
  have hl : lv_has ls 5 [(0, .ref q), (1, .ref (G 1)), (2, .int nu), (3, .int kn), (4, .int ma)] := hl
  refine lv_aload_n cx.x cx.b dX2_init_0 rfl (lv_at hl 0 rfl) ?_
  refine W.objInit cx.x cx.b cx.ow (cx.ts _ tw_117) (cx.ts _ tw_30) (cx.ts _ tw_31) rfl (hl.1.trans cx.ml.symm) rfl dX2_init_1 (Nat.le_of_ble_eq_true rfl) (Nat.le_of_ble_eq_true rfl) ?_
  refine W.eq (g2 := F0 m 4 ls []) rfl ?_
  refine lv_aload_n cx.x cx.b dX2_init_4 rfl (lv_at hl 0 rfl) ?_
  refine lv_iconst (v := 0) cx.x cx.b dX2_init_5 (by decide) ?_
  refine pt_f cx hw (13 + s_n σ) kwX_get (cls_d hkd) (inD_all _ hkd) tyX2 tyX2_ok nmX2 4 (by decide) tw_136 ⟨rfl, rfl, Or.inl rfl⟩ rfl rfl rfl rfl (Nat.le_of_ble_eq_true rfl) dX2_init_6 (w1 := kwX G Q σ q (4 + kd) ([.null, .int 0, .int 0, .int 0, .int 0, .int 0, .int 0, .int 0])) kwX_set (fun H locs hw => ?_)
  refine lv_aload_n cx.x cx.b dX2_init_9 rfl (lv_at hl 0 rfl) ?_
  refine lv_iconst (v := 0) cx.x cx.b dX2_init_10 (by decide) ?_
  refine pt_f cx hw (13 + s_n σ) kwX_get (cls_d hkd) (inD_all _ hkd) tyX2 tyX2_ok nmX2 5 (by decide) tw_140 ⟨rfl, rfl, Or.inl rfl⟩ rfl rfl rfl rfl (Nat.le_of_ble_eq_true rfl) dX2_init_11 (w1 := kwX G Q σ q (4 + kd) ([.null, .int 0, .int 0, .int 0, .int 0, .int 0, .int 0, .int 0])) kwX_set (fun H locs hw => ?_)
  refine lv_aload_n cx.x cx.b dX2_init_14 rfl (lv_at hl 0 rfl) ?_
  refine lv_iconst (v := 0) cx.x cx.b dX2_init_15 (by decide) ?_
  refine pt_f cx hw (13 + s_n σ) kwX_get (cls_d hkd) (inD_all _ hkd) tyX2 tyX2_ok nmX2 6 (by decide) tw_144 ⟨rfl, rfl, Or.inl rfl⟩ rfl rfl rfl rfl (Nat.le_of_ble_eq_true rfl) dX2_init_16 (w1 := kwX G Q σ q (4 + kd) ([.null, .int 0, .int 0, .int 0, .int 0, .int 0, .int 0, .int 0])) kwX_set (fun H locs hw => ?_)
  refine lv_aload_n cx.x cx.b dX2_init_19 rfl (lv_at hl 0 rfl) ?_
  refine lv_iconst (v := 0) cx.x cx.b dX2_init_20 (by decide) ?_
  refine pt_f cx hw (13 + s_n σ) kwX_get (cls_d hkd) (inD_all _ hkd) tyX2 tyX2_ok nmX2 7 (by decide) tw_150 ⟨rfl, rfl, Or.inl rfl⟩ rfl rfl rfl rfl (Nat.le_of_ble_eq_true rfl) dX2_init_21 (w1 := kwX G Q σ q (4 + kd) ([.null, .int 0, .int 0, .int 0, .int 0, .int 0, .int 0, .int 0])) kwX_set (fun H locs hw => ?_)
  refine lv_aload_n cx.x cx.b dX2_init_24 rfl (lv_at hl 0 rfl) ?_
  refine lv_aload_n cx.x cx.b dX2_init_25 rfl (lv_at hl 1 rfl) ?_
  refine ptF_f cx hin2 hw (13 + s_n σ) kwX_get (cls_d hkd) (inD_all _ hkd) tyX2 tyX2_ok nmX2 0 (by decide) tw_118 ⟨rfl, rfl, rfl, rfl⟩ rfl rfl rfl rfl (Nat.le_of_ble_eq_true rfl) dX2_init_26 (w1 := kwX G Q σ q (4 + kd) ([.ref (G 1), .int 0, .int 0, .int 0, .int 0, .int 0, .int 0, .int 0])) kwX_set (fun H locs hw => ?_)
  refine lv_aload_n cx.x cx.b dX2_init_29 rfl (lv_at hl 0 rfl) ?_
  refine lv_iload_n cx.x cx.b dX2_init_30 rfl (lv_at hl 2 rfl) ?_
  refine ptF_f cx hin2 hw (13 + s_n σ) kwX_get (cls_d hkd) (inD_all _ hkd) tyX2 tyX2_ok nmX2 1 (by decide) tw_131 ⟨rfl, rfl, rfl, rfl⟩ rfl rfl rfl rfl (Nat.le_of_ble_eq_true rfl) dX2_init_31 (w1 := kwX G Q σ q (4 + kd) ([.ref (G 1), .int nu, .int 0, .int 0, .int 0, .int 0, .int 0, .int 0])) kwX_set (fun H locs hw => ?_)
  refine lv_aload_n cx.x cx.b dX2_init_34 rfl (lv_at hl 0 rfl) ?_
  refine lv_iload_n cx.x cx.b dX2_init_35 rfl (lv_at hl 3 rfl) ?_
  refine ptF_f cx hin2 hw (13 + s_n σ) kwX_get (cls_d hkd) (inD_all _ hkd) tyX2 tyX2_ok nmX2 2 (by decide) tw_132 ⟨rfl, rfl, rfl, rfl⟩ rfl rfl rfl rfl (Nat.le_of_ble_eq_true rfl) dX2_init_36 (w1 := kwX G Q σ q (4 + kd) ([.ref (G 1), .int nu, .int kn, .int 0, .int 0, .int 0, .int 0, .int 0])) kwX_set (fun H locs hw => ?_)
  refine lv_aload_n cx.x cx.b dX2_init_39 rfl (lv_at hl 0 rfl) ?_
  refine lv_iload cx.x cx.b dX2_init_40 (lv_at hl 4 rfl) ?_
  refine ptF_f cx hin2 hw (13 + s_n σ) kwX_get (cls_d hkd) (inD_all _ hkd) tyX2 tyX2_ok nmX2 3 (by decide) tw_134 ⟨rfl, rfl, rfl, rfl⟩ rfl rfl rfl rfl (Nat.le_of_ble_eq_true rfl) dX2_init_42 (w1 := kwX G Q σ q (4 + kd) ([.ref (G 1), .int nu, .int kn, .int ma, .int 0, .int 0, .int 0, .int 0])) kwX_set (fun H locs hw => ?_)
  exact ret_v ([.ref (G 1), .int nu, .int kn, .int ma, .int 0, .int 0, .int 0, .int 0]) cx hw rfl dX2_init_45 (Nat.le_of_ble_eq_true rfl) (Nat.le_of_ble_eq_true rfl)
set_option maxHeartbeats 4000000 in
set_option maxRecDepth 100000 in
theorem c_X4_init (l : Launch) (D : va_G) (G : Nat → Nat) (Q : Nat → ClassId) (σ : St) (q kd : Nat) (hkd : kd < 8) (nu kn ma : Int32) : MV l yX4_init cX4_init 5 ({ frames := 2, cells := 0, slots := 0, locals := 44 }) D cls (tyl Q) [.ref q, .ref (G 1), .int nu, .int kn, .int ma] (kwX G Q σ q (4 + kd)) (kwX G Q σ q (4 + kd) dBlank) (fun u => u = dNew G nu kn ma) 0 0 := by
  refine MVi_of (by decide) rfl (Nat.le_of_ble_eq_true rfl) ?_
  intro p e s m args below meth c A ls hin2 cx hw hl
  have hl : lv_has ls 5 [(0, .ref q), (1, .ref (G 1)), (2, .int nu), (3, .int kn), (4, .int ma)] := hl
  refine lv_aload_n cx.x cx.b dX4_init_0 rfl (lv_at hl 0 rfl) ?_
  refine lv_aload_n cx.x cx.b dX4_init_1 rfl (lv_at hl 1 rfl) ?_
  refine lv_iload_n cx.x cx.b dX4_init_2 rfl (lv_at hl 2 rfl) ?_
  refine lv_iload_n cx.x cx.b dX4_init_3 rfl (lv_at hl 3 rfl) ?_
  refine lv_iload cx.x cx.b dX4_init_4 (lv_at hl 4 rfl) ?_
  refine cgo_v cx hw (rI_v (n := 4) (As := [.ref (G 1), .int nu, .int kn, .int ma]) (rest := []) cx hw (c_X2_init l D G Q σ q kd hkd nu kn ma) tw_114 tw_115 tw_5 tw_116 rfl ⟨by decide +kernel, rfl, hl.1, (Nat.le_of_ble_eq_true rfl), ⟨(Nat.le_of_ble_eq_true rfl), (Nat.le_of_ble_eq_true rfl)⟩, ⟨(Nat.le_of_ble_eq_true rfl), (Nat.le_of_ble_eq_true rfl)⟩, rfl, rfl⟩ rfl dX4_init_6) (fun u H locs hp hw => ?_)
  have hp := hp.symm
  subst hp
  exact ret_v (dNew G nu kn ma) cx hw rfl dX4_init_9 (Nat.le_of_ble_eq_true rfl) (Nat.le_of_ble_eq_true rfl)
set_option maxHeartbeats 4000000 in
set_option maxRecDepth 100000 in
theorem c_X6_init (l : Launch) (D : va_G) (G : Nat → Nat) (Q : Nat → ClassId) (σ : St) (q kd : Nat) (hkd : kd < 8) (nu kn ma : Int32) : MV l yX6_init cX6_init 5 ({ frames := 3, cells := 0, slots := 0, locals := 68 }) D cls (tyl Q) [.ref q, .ref (G 1), .int nu, .int kn, .int ma] (kwX G Q σ q (4 + kd)) (kwX G Q σ q (4 + kd) dBlank) (fun u => u = dNew G nu kn ma) 0 0 := by
  refine MVi_of (by decide) rfl (Nat.le_of_ble_eq_true rfl) ?_
  intro p e s m args below meth c A ls hin2 cx hw hl
  have hl : lv_has ls 5 [(0, .ref q), (1, .ref (G 1)), (2, .int nu), (3, .int kn), (4, .int ma)] := hl
  refine lv_aload_n cx.x cx.b dX6_init_0 rfl (lv_at hl 0 rfl) ?_
  refine lv_aload_n cx.x cx.b dX6_init_1 rfl (lv_at hl 1 rfl) ?_
  refine lv_iload_n cx.x cx.b dX6_init_2 rfl (lv_at hl 2 rfl) ?_
  refine lv_iload_n cx.x cx.b dX6_init_3 rfl (lv_at hl 3 rfl) ?_
  refine lv_iload cx.x cx.b dX6_init_4 (lv_at hl 4 rfl) ?_
  refine cgo_v cx hw (rI_v (n := 4) (As := [.ref (G 1), .int nu, .int kn, .int ma]) (rest := []) cx hw (c_X4_init l D G Q σ q kd hkd nu kn ma) tw_178 tw_112 tw_6 tw_113 rfl ⟨by decide +kernel, rfl, hl.1, (Nat.le_of_ble_eq_true rfl), ⟨(Nat.le_of_ble_eq_true rfl), (Nat.le_of_ble_eq_true rfl)⟩, ⟨(Nat.le_of_ble_eq_true rfl), (Nat.le_of_ble_eq_true rfl)⟩, rfl, rfl⟩ rfl dX6_init_6) (fun u H locs hp hw => ?_)
  have hp := hp.symm
  subst hp
  exact ret_v (dNew G nu kn ma) cx hw rfl dX6_init_9 (Nat.le_of_ble_eq_true rfl) (Nat.le_of_ble_eq_true rfl)
set_option maxHeartbeats 4000000 in
set_option maxRecDepth 100000 in
theorem c_X9_init (l : Launch) (D : va_G) (G : Nat → Nat) (Q : Nat → ClassId) (σ : St) (q kd : Nat) (hkd : kd < 8) (nu kn ma : Int32) : MV l yX9_init cX9_init 5 ({ frames := 3, cells := 0, slots := 0, locals := 68 }) D cls (tyl Q) [.ref q, .ref (G 1), .int nu, .int kn, .int ma] (kwX G Q σ q (4 + kd)) (kwX G Q σ q (4 + kd) dBlank) (fun u => u = dNew G nu kn ma) 0 0 := by
  refine MVi_of (by decide) rfl (Nat.le_of_ble_eq_true rfl) ?_
  intro p e s m args below meth c A ls hin2 cx hw hl
  have hl : lv_has ls 5 [(0, .ref q), (1, .ref (G 1)), (2, .int nu), (3, .int kn), (4, .int ma)] := hl
  refine lv_aload_n cx.x cx.b dX9_init_0 rfl (lv_at hl 0 rfl) ?_
  refine lv_aload_n cx.x cx.b dX9_init_1 rfl (lv_at hl 1 rfl) ?_
  refine lv_iload_n cx.x cx.b dX9_init_2 rfl (lv_at hl 2 rfl) ?_
  refine lv_iload_n cx.x cx.b dX9_init_3 rfl (lv_at hl 3 rfl) ?_
  refine lv_iload cx.x cx.b dX9_init_4 (lv_at hl 4 rfl) ?_
  refine cgo_v cx hw (rI_v (n := 4) (As := [.ref (G 1), .int nu, .int kn, .int ma]) (rest := []) cx hw (c_X4_init l D G Q σ q kd hkd nu kn ma) tw_193 tw_112 tw_6 tw_113 rfl ⟨by decide +kernel, rfl, hl.1, (Nat.le_of_ble_eq_true rfl), ⟨(Nat.le_of_ble_eq_true rfl), (Nat.le_of_ble_eq_true rfl)⟩, ⟨(Nat.le_of_ble_eq_true rfl), (Nat.le_of_ble_eq_true rfl)⟩, rfl, rfl⟩ rfl dX9_init_6) (fun u H locs hp hw => ?_)
  have hp := hp.symm
  subst hp
  exact ret_v (dNew G nu kn ma) cx hw rfl dX9_init_9 (Nat.le_of_ble_eq_true rfl) (Nat.le_of_ble_eq_true rfl)
set_option maxHeartbeats 4000000 in
set_option maxRecDepth 100000 in
theorem c_X8_init (l : Launch) (D : va_G) (G : Nat → Nat) (Q : Nat → ClassId) (σ : St) (q kd : Nat) (hkd : kd < 8) (nu kn ma : Int32) : MV l yX8_init cX8_init 5 ({ frames := 4, cells := 0, slots := 0, locals := 92 }) D cls (tyl Q) [.ref q, .ref (G 1), .int nu, .int kn, .int ma] (kwX G Q σ q (4 + kd)) (kwX G Q σ q (4 + kd) dBlank) (fun u => u = dNew G nu kn ma) 0 0 := by
  refine MVi_of (by decide) rfl (Nat.le_of_ble_eq_true rfl) ?_
  intro p e s m args below meth c A ls hin2 cx hw hl
  have hl : lv_has ls 5 [(0, .ref q), (1, .ref (G 1)), (2, .int nu), (3, .int kn), (4, .int ma)] := hl
  refine lv_aload_n cx.x cx.b dX8_init_0 rfl (lv_at hl 0 rfl) ?_
  refine lv_aload_n cx.x cx.b dX8_init_1 rfl (lv_at hl 1 rfl) ?_
  refine lv_iload_n cx.x cx.b dX8_init_2 rfl (lv_at hl 2 rfl) ?_
  refine lv_iload_n cx.x cx.b dX8_init_3 rfl (lv_at hl 3 rfl) ?_
  refine lv_iload cx.x cx.b dX8_init_4 (lv_at hl 4 rfl) ?_
  refine cgo_v cx hw (rI_v (n := 4) (As := [.ref (G 1), .int nu, .int kn, .int ma]) (rest := []) cx hw (c_X6_init l D G Q σ q kd hkd nu kn ma) tw_208 tw_176 tw_7 tw_177 rfl ⟨by decide +kernel, rfl, hl.1, (Nat.le_of_ble_eq_true rfl), ⟨(Nat.le_of_ble_eq_true rfl), (Nat.le_of_ble_eq_true rfl)⟩, ⟨(Nat.le_of_ble_eq_true rfl), (Nat.le_of_ble_eq_true rfl)⟩, rfl, rfl⟩ rfl dX8_init_6) (fun u H locs hp hw => ?_)
  have hp := hp.symm
  subst hp
  exact ret_v (dNew G nu kn ma) cx hw rfl dX8_init_9 (Nat.le_of_ble_eq_true rfl) (Nat.le_of_ble_eq_true rfl)
set_option maxHeartbeats 4000000 in
set_option maxRecDepth 100000 in
theorem c_X1_init (l : Launch) (D : va_G) (G : Nat → Nat) (Q : Nat → ClassId) (σ : St) (q kd : Nat) (hkd : kd < 8) (nu kn ma : Int32) : MV l yX1_init cX1_init 5 ({ frames := 4, cells := 0, slots := 0, locals := 92 }) D cls (tyl Q) [.ref q, .ref (G 1), .int nu, .int kn, .int ma] (kwX G Q σ q (4 + kd)) (kwX G Q σ q (4 + kd) dBlank) (fun u => u = dNew G nu kn ma) 0 0 := by
  refine MVi_of (by decide) rfl (Nat.le_of_ble_eq_true rfl) ?_
  intro p e s m args below meth c A ls hin2 cx hw hl
  have hl : lv_has ls 5 [(0, .ref q), (1, .ref (G 1)), (2, .int nu), (3, .int kn), (4, .int ma)] := hl
  refine lv_aload_n cx.x cx.b dX1_init_0 rfl (lv_at hl 0 rfl) ?_
  refine lv_aload_n cx.x cx.b dX1_init_1 rfl (lv_at hl 1 rfl) ?_
  refine lv_iload_n cx.x cx.b dX1_init_2 rfl (lv_at hl 2 rfl) ?_
  refine lv_iload_n cx.x cx.b dX1_init_3 rfl (lv_at hl 3 rfl) ?_
  refine lv_iload cx.x cx.b dX1_init_4 (lv_at hl 4 rfl) ?_
  refine cgo_v cx hw (rI_v (n := 4) (As := [.ref (G 1), .int nu, .int kn, .int ma]) (rest := []) cx hw (c_X9_init l D G Q σ q kd hkd nu kn ma) tw_223 tw_191 tw_8 tw_192 rfl ⟨by decide +kernel, rfl, hl.1, (Nat.le_of_ble_eq_true rfl), ⟨(Nat.le_of_ble_eq_true rfl), (Nat.le_of_ble_eq_true rfl)⟩, ⟨(Nat.le_of_ble_eq_true rfl), (Nat.le_of_ble_eq_true rfl)⟩, rfl, rfl⟩ rfl dX1_init_6) (fun u H locs hp hw => ?_)
  have hp := hp.symm
  subst hp
  exact ret_v (dNew G nu kn ma) cx hw rfl dX1_init_9 (Nat.le_of_ble_eq_true rfl) (Nat.le_of_ble_eq_true rfl)
set_option maxHeartbeats 4000000 in
set_option maxRecDepth 100000 in
theorem c_X3_init (l : Launch) (D : va_G) (G : Nat → Nat) (Q : Nat → ClassId) (σ : St) (q kd : Nat) (hkd : kd < 8) (nu kn ma : Int32) : MV l yX3_init cX3_init 5 ({ frames := 2, cells := 0, slots := 0, locals := 44 }) D cls (tyl Q) [.ref q, .ref (G 1), .int nu, .int kn, .int ma] (kwX G Q σ q (4 + kd)) (kwX G Q σ q (4 + kd) dBlank) (fun u => u = dNew G nu kn ma) 0 0 := by
  refine MVi_of (by decide) rfl (Nat.le_of_ble_eq_true rfl) ?_
  intro p e s m args below meth c A ls hin2 cx hw hl
  have hl : lv_has ls 5 [(0, .ref q), (1, .ref (G 1)), (2, .int nu), (3, .int kn), (4, .int ma)] := hl
  refine lv_aload_n cx.x cx.b dX3_init_0 rfl (lv_at hl 0 rfl) ?_
  refine lv_aload_n cx.x cx.b dX3_init_1 rfl (lv_at hl 1 rfl) ?_
  refine lv_iload_n cx.x cx.b dX3_init_2 rfl (lv_at hl 2 rfl) ?_
  refine lv_iload_n cx.x cx.b dX3_init_3 rfl (lv_at hl 3 rfl) ?_
  refine lv_iload cx.x cx.b dX3_init_4 (lv_at hl 4 rfl) ?_
  refine cgo_v cx hw (rI_v (n := 4) (As := [.ref (G 1), .int nu, .int kn, .int ma]) (rest := []) cx hw (c_X2_init l D G Q σ q kd hkd nu kn ma) tw_238 tw_115 tw_5 tw_116 rfl ⟨by decide +kernel, rfl, hl.1, (Nat.le_of_ble_eq_true rfl), ⟨(Nat.le_of_ble_eq_true rfl), (Nat.le_of_ble_eq_true rfl)⟩, ⟨(Nat.le_of_ble_eq_true rfl), (Nat.le_of_ble_eq_true rfl)⟩, rfl, rfl⟩ rfl dX3_init_6) (fun u H locs hp hw => ?_)
  have hp := hp.symm
  subst hp
  exact ret_v (dNew G nu kn ma) cx hw rfl dX3_init_9 (Nat.le_of_ble_eq_true rfl) (Nat.le_of_ble_eq_true rfl)
set_option maxHeartbeats 4000000 in
set_option maxRecDepth 100000 in
theorem c_X5_init (l : Launch) (D : va_G) (G : Nat → Nat) (Q : Nat → ClassId) (σ : St) (q kd : Nat) (hkd : kd < 8) (nu kn ma : Int32) : MV l yX5_init cX5_init 5 ({ frames := 5, cells := 0, slots := 0, locals := 116 }) D cls (tyl Q) [.ref q, .ref (G 1), .int nu, .int kn, .int ma] (kwX G Q σ q (4 + kd)) (kwX G Q σ q (4 + kd) dBlank) (fun u => u = dNew G nu kn ma) 0 0 := by
  refine MVi_of (by decide) rfl (Nat.le_of_ble_eq_true rfl) ?_
  intro p e s m args below meth c A ls hin2 cx hw hl
  have hl : lv_has ls 5 [(0, .ref q), (1, .ref (G 1)), (2, .int nu), (3, .int kn), (4, .int ma)] := hl
  refine lv_aload_n cx.x cx.b dX5_init_0 rfl (lv_at hl 0 rfl) ?_
  refine lv_aload_n cx.x cx.b dX5_init_1 rfl (lv_at hl 1 rfl) ?_
  refine lv_iload_n cx.x cx.b dX5_init_2 rfl (lv_at hl 2 rfl) ?_
  refine lv_iload_n cx.x cx.b dX5_init_3 rfl (lv_at hl 3 rfl) ?_
  refine lv_iload cx.x cx.b dX5_init_4 (lv_at hl 4 rfl) ?_
  refine cgo_v cx hw (rI_v (n := 4) (As := [.ref (G 1), .int nu, .int kn, .int ma]) (rest := []) cx hw (c_X8_init l D G Q σ q kd hkd nu kn ma) tw_253 tw_206 tw_9 tw_207 rfl ⟨by decide +kernel, rfl, hl.1, (Nat.le_of_ble_eq_true rfl), ⟨(Nat.le_of_ble_eq_true rfl), (Nat.le_of_ble_eq_true rfl)⟩, ⟨(Nat.le_of_ble_eq_true rfl), (Nat.le_of_ble_eq_true rfl)⟩, rfl, rfl⟩ rfl dX5_init_6) (fun u H locs hp hw => ?_)
  have hp := hp.symm
  subst hp
  exact ret_v (dNew G nu kn ma) cx hw rfl dX5_init_9 (Nat.le_of_ble_eq_true rfl) (Nat.le_of_ble_eq_true rfl)
theorem kwX_h {G : Nat → Nat} {Q : Nat → ClassId} {σ : St} {q ci : Nat} {fs : List Value} : (kwX G Q σ q ci fs)[0]? = some (G 0, .inr (2, [.ref (G 1), .ref (G 3), .ref (G 4), .int (nI (s_n σ))])) := rfl
set_option maxHeartbeats 4000000 in
set_option maxRecDepth 100000 in
theorem c_X10_knead (l : Launch) (D : va_G) (G : Nat → Nat) (Q : Nat → ClassId) (σ : St) (kd : Nat) (hkd : kd < 8) (nu ma : Int32) : MR l yX10_knead cX10_knead 4 (.object "BakeHouse$Dough") ({ frames := 6, cells := 1, slots := 8, locals := 140 }) D cls (tyl Q) [.ref (G 0), .int (nI kd), .int nu, .int ma] (kwN G Q σ kd nu ma) (kw G Q σ) (fun r u => r = some u) 1 8 := by
  refine MR_of (by decide) (Nat.le_of_ble_eq_true rfl) ?_
  intro p e s m args below meth c A ls cx hw hl
  have hl : lv_has ls 4 [(0, .ref (G 0)), (1, .int (nI kd)), (2, .int nu), (3, .int ma)] := hl
  rcases (show kd = 0 ∨ kd = 1 ∨ kd = 2 ∨ kd = 3 ∨ kd = 4 ∨ kd = 5 ∨ kd = 6 ∨ kd = 7 by omega) with rfl | rfl | rfl | rfl | rfl | rfl | rfl | rfl
  · refine lv_iload_n cx.x cx.b dX10_knead_0 rfl (lv_at hl 1 rfl) ?_
    refine lv_tableOut (tgt := 149) cx.x cx.b dX10_knead_1 (by decide) (by decide) ?_
    refine nw_o (ci := 4) (fs := dBlank) cx hw (cls_d (k := 0) (by decide)) (inD_all 0 (by decide)) tyX2 tyX2_ok tw_83 tw_263 tw_5 (by decide +kernel) (Nat.le_of_ble_eq_true rfl) (Nat.le_of_ble_eq_true rfl) dX10_knead_149 (fun q H hw => ?_)
    have hw : Wd D cls A s H [] (kwX G Q σ q (4 + 0) dBlank) := hw
    refine lv_dup cx.x cx.b dX10_knead_152 rfl ?_
    refine lv_aload_n cx.x cx.b dX10_knead_153 rfl (lv_at hl 0 rfl) ?_
    refine gt_f (v := .ref (G 1)) cx hw 0 (kwX_h (σ := σ)) rfl inX10 0 (by decide) tw_85 ⟨rfl, rfl, Or.inl rfl⟩ rfl dX10_knead_154 ?_
    refine lv_iload_n cx.x cx.b dX10_knead_157 rfl (lv_at hl 2 rfl) ?_
    refine lv_iload_n cx.x cx.b dX10_knead_158 rfl (lv_at hl 1 rfl) ?_
    refine lv_iload_n cx.x cx.b dX10_knead_159 rfl (lv_at hl 3 rfl) ?_
    refine cgo_v cx hw (rI_v (n := 4) (As := [.ref (G 1), .int nu, .int (nI 0), .int ma]) (rest := [.ref q]) cx hw (c_X2_init l D G Q σ q 0 (by decide) nu (nI 0) ma) tw_264 tw_115 tw_5 tw_116 rfl ⟨by decide +kernel, rfl, hl.1, (Nat.le_of_ble_eq_true rfl), ⟨(Nat.le_of_ble_eq_true rfl), (Nat.le_of_ble_eq_true rfl)⟩, ⟨(Nat.le_of_ble_eq_true rfl), (Nat.le_of_ble_eq_true rfl)⟩, rfl, rfl⟩ rfl dX10_knead_160) (fun u H locs hp hw => ?_)
    have hp := hp.symm
    subst hp
    exact ret_r (r := some q) q cx hw rfl dX10_knead_163 (Nat.le_of_ble_eq_true rfl) (Nat.le_of_ble_eq_true rfl)
  · refine lv_iload_n cx.x cx.b dX10_knead_0 rfl (lv_at hl 1 rfl) ?_
    refine lv_tableIn (tgt := 44) cx.x cx.b dX10_knead_1 (by decide) (by decide) rfl (by decide) ?_
    refine nw_o (ci := 5) (fs := dBlank) cx hw (cls_d (k := 1) (by decide)) (inD_all 1 (by decide)) tyX2 tyX2_ok tw_109 tw_110 tw_6 (by decide +kernel) (Nat.le_of_ble_eq_true rfl) (Nat.le_of_ble_eq_true rfl) dX10_knead_44 (fun q H hw => ?_)
    have hw : Wd D cls A s H [] (kwX G Q σ q (4 + 1) dBlank) := hw
    refine lv_dup cx.x cx.b dX10_knead_47 rfl ?_
    refine lv_aload_n cx.x cx.b dX10_knead_48 rfl (lv_at hl 0 rfl) ?_
    refine gt_f (v := .ref (G 1)) cx hw 0 (kwX_h (σ := σ)) rfl inX10 0 (by decide) tw_85 ⟨rfl, rfl, Or.inl rfl⟩ rfl dX10_knead_49 ?_
    refine lv_iload_n cx.x cx.b dX10_knead_52 rfl (lv_at hl 2 rfl) ?_
    refine lv_iload_n cx.x cx.b dX10_knead_53 rfl (lv_at hl 1 rfl) ?_
    refine lv_iload_n cx.x cx.b dX10_knead_54 rfl (lv_at hl 3 rfl) ?_
    refine cgo_v cx hw (rI_v (n := 4) (As := [.ref (G 1), .int nu, .int (nI 1), .int ma]) (rest := [.ref q]) cx hw (c_X4_init l D G Q σ q 1 (by decide) nu (nI 1) ma) tw_111 tw_112 tw_6 tw_113 rfl ⟨by decide +kernel, rfl, hl.1, (Nat.le_of_ble_eq_true rfl), ⟨(Nat.le_of_ble_eq_true rfl), (Nat.le_of_ble_eq_true rfl)⟩, ⟨(Nat.le_of_ble_eq_true rfl), (Nat.le_of_ble_eq_true rfl)⟩, rfl, rfl⟩ rfl dX10_knead_55) (fun u H locs hp hw => ?_)
    have hp := hp.symm
    subst hp
    exact ret_r (r := some q) q cx hw rfl dX10_knead_58 (Nat.le_of_ble_eq_true rfl) (Nat.le_of_ble_eq_true rfl)
  · refine lv_iload_n cx.x cx.b dX10_knead_0 rfl (lv_at hl 1 rfl) ?_
    refine lv_tableIn (tgt := 59) cx.x cx.b dX10_knead_1 (by decide) (by decide) rfl (by decide) ?_
    refine nw_o (ci := 6) (fs := dBlank) cx hw (cls_d (k := 2) (by decide)) (inD_all 2 (by decide)) tyX2 tyX2_ok tw_173 tw_174 tw_7 (by decide +kernel) (Nat.le_of_ble_eq_true rfl) (Nat.le_of_ble_eq_true rfl) dX10_knead_59 (fun q H hw => ?_)
    have hw : Wd D cls A s H [] (kwX G Q σ q (4 + 2) dBlank) := hw
    refine lv_dup cx.x cx.b dX10_knead_62 rfl ?_
    refine lv_aload_n cx.x cx.b dX10_knead_63 rfl (lv_at hl 0 rfl) ?_
    refine gt_f (v := .ref (G 1)) cx hw 0 (kwX_h (σ := σ)) rfl inX10 0 (by decide) tw_85 ⟨rfl, rfl, Or.inl rfl⟩ rfl dX10_knead_64 ?_
    refine lv_iload_n cx.x cx.b dX10_knead_67 rfl (lv_at hl 2 rfl) ?_
    refine lv_iload_n cx.x cx.b dX10_knead_68 rfl (lv_at hl 1 rfl) ?_
    refine lv_iload_n cx.x cx.b dX10_knead_69 rfl (lv_at hl 3 rfl) ?_
    refine cgo_v cx hw (rI_v (n := 4) (As := [.ref (G 1), .int nu, .int (nI 2), .int ma]) (rest := [.ref q]) cx hw (c_X6_init l D G Q σ q 2 (by decide) nu (nI 2) ma) tw_175 tw_176 tw_7 tw_177 rfl ⟨by decide +kernel, rfl, hl.1, (Nat.le_of_ble_eq_true rfl), ⟨(Nat.le_of_ble_eq_true rfl), (Nat.le_of_ble_eq_true rfl)⟩, ⟨(Nat.le_of_ble_eq_true rfl), (Nat.le_of_ble_eq_true rfl)⟩, rfl, rfl⟩ rfl dX10_knead_70) (fun u H locs hp hw => ?_)
    have hp := hp.symm
    subst hp
    exact ret_r (r := some q) q cx hw rfl dX10_knead_73 (Nat.le_of_ble_eq_true rfl) (Nat.le_of_ble_eq_true rfl)
  · refine lv_iload_n cx.x cx.b dX10_knead_0 rfl (lv_at hl 1 rfl) ?_
    refine lv_tableIn (tgt := 74) cx.x cx.b dX10_knead_1 (by decide) (by decide) rfl (by decide) ?_
    refine nw_o (ci := 7) (fs := dBlank) cx hw (cls_d (k := 3) (by decide)) (inD_all 3 (by decide)) tyX2 tyX2_ok tw_188 tw_189 tw_8 (by decide +kernel) (Nat.le_of_ble_eq_true rfl) (Nat.le_of_ble_eq_true rfl) dX10_knead_74 (fun q H hw => ?_)
    have hw : Wd D cls A s H [] (kwX G Q σ q (4 + 3) dBlank) := hw
    refine lv_dup cx.x cx.b dX10_knead_77 rfl ?_
    refine lv_aload_n cx.x cx.b dX10_knead_78 rfl (lv_at hl 0 rfl) ?_
    refine gt_f (v := .ref (G 1)) cx hw 0 (kwX_h (σ := σ)) rfl inX10 0 (by decide) tw_85 ⟨rfl, rfl, Or.inl rfl⟩ rfl dX10_knead_79 ?_
    refine lv_iload_n cx.x cx.b dX10_knead_82 rfl (lv_at hl 2 rfl) ?_
    refine lv_iload_n cx.x cx.b dX10_knead_83 rfl (lv_at hl 1 rfl) ?_
    refine lv_iload_n cx.x cx.b dX10_knead_84 rfl (lv_at hl 3 rfl) ?_
    refine cgo_v cx hw (rI_v (n := 4) (As := [.ref (G 1), .int nu, .int (nI 3), .int ma]) (rest := [.ref q]) cx hw (c_X9_init l D G Q σ q 3 (by decide) nu (nI 3) ma) tw_190 tw_191 tw_8 tw_192 rfl ⟨by decide +kernel, rfl, hl.1, (Nat.le_of_ble_eq_true rfl), ⟨(Nat.le_of_ble_eq_true rfl), (Nat.le_of_ble_eq_true rfl)⟩, ⟨(Nat.le_of_ble_eq_true rfl), (Nat.le_of_ble_eq_true rfl)⟩, rfl, rfl⟩ rfl dX10_knead_85) (fun u H locs hp hw => ?_)
    have hp := hp.symm
    subst hp
    exact ret_r (r := some q) q cx hw rfl dX10_knead_88 (Nat.le_of_ble_eq_true rfl) (Nat.le_of_ble_eq_true rfl)
  · refine lv_iload_n cx.x cx.b dX10_knead_0 rfl (lv_at hl 1 rfl) ?_
    refine lv_tableIn (tgt := 89) cx.x cx.b dX10_knead_1 (by decide) (by decide) rfl (by decide) ?_
    refine nw_o (ci := 8) (fs := dBlank) cx hw (cls_d (k := 4) (by decide)) (inD_all 4 (by decide)) tyX2 tyX2_ok tw_203 tw_204 tw_9 (by decide +kernel) (Nat.le_of_ble_eq_true rfl) (Nat.le_of_ble_eq_true rfl) dX10_knead_89 (fun q H hw => ?_)
    have hw : Wd D cls A s H [] (kwX G Q σ q (4 + 4) dBlank) := hw
    refine lv_dup cx.x cx.b dX10_knead_92 rfl ?_
    refine lv_aload_n cx.x cx.b dX10_knead_93 rfl (lv_at hl 0 rfl) ?_
    refine gt_f (v := .ref (G 1)) cx hw 0 (kwX_h (σ := σ)) rfl inX10 0 (by decide) tw_85 ⟨rfl, rfl, Or.inl rfl⟩ rfl dX10_knead_94 ?_
    refine lv_iload_n cx.x cx.b dX10_knead_97 rfl (lv_at hl 2 rfl) ?_
    refine lv_iload_n cx.x cx.b dX10_knead_98 rfl (lv_at hl 1 rfl) ?_
    refine lv_iload_n cx.x cx.b dX10_knead_99 rfl (lv_at hl 3 rfl) ?_
    refine cgo_v cx hw (rI_v (n := 4) (As := [.ref (G 1), .int nu, .int (nI 4), .int ma]) (rest := [.ref q]) cx hw (c_X8_init l D G Q σ q 4 (by decide) nu (nI 4) ma) tw_205 tw_206 tw_9 tw_207 rfl ⟨by decide +kernel, rfl, hl.1, (Nat.le_of_ble_eq_true rfl), ⟨(Nat.le_of_ble_eq_true rfl), (Nat.le_of_ble_eq_true rfl)⟩, ⟨(Nat.le_of_ble_eq_true rfl), (Nat.le_of_ble_eq_true rfl)⟩, rfl, rfl⟩ rfl dX10_knead_100) (fun u H locs hp hw => ?_)
    have hp := hp.symm
    subst hp
    exact ret_r (r := some q) q cx hw rfl dX10_knead_103 (Nat.le_of_ble_eq_true rfl) (Nat.le_of_ble_eq_true rfl)
  · refine lv_iload_n cx.x cx.b dX10_knead_0 rfl (lv_at hl 1 rfl) ?_
    refine lv_tableIn (tgt := 104) cx.x cx.b dX10_knead_1 (by decide) (by decide) rfl (by decide) ?_
    refine nw_o (ci := 9) (fs := dBlank) cx hw (cls_d (k := 5) (by decide)) (inD_all 5 (by decide)) tyX2 tyX2_ok tw_218 tw_219 tw_10 (by decide +kernel) (Nat.le_of_ble_eq_true rfl) (Nat.le_of_ble_eq_true rfl) dX10_knead_104 (fun q H hw => ?_)
    have hw : Wd D cls A s H [] (kwX G Q σ q (4 + 5) dBlank) := hw
    refine lv_dup cx.x cx.b dX10_knead_107 rfl ?_
    refine lv_aload_n cx.x cx.b dX10_knead_108 rfl (lv_at hl 0 rfl) ?_
    refine gt_f (v := .ref (G 1)) cx hw 0 (kwX_h (σ := σ)) rfl inX10 0 (by decide) tw_85 ⟨rfl, rfl, Or.inl rfl⟩ rfl dX10_knead_109 ?_
    refine lv_iload_n cx.x cx.b dX10_knead_112 rfl (lv_at hl 2 rfl) ?_
    refine lv_iload_n cx.x cx.b dX10_knead_113 rfl (lv_at hl 1 rfl) ?_
    refine lv_iload_n cx.x cx.b dX10_knead_114 rfl (lv_at hl 3 rfl) ?_
    refine cgo_v cx hw (rI_v (n := 4) (As := [.ref (G 1), .int nu, .int (nI 5), .int ma]) (rest := [.ref q]) cx hw (c_X1_init l D G Q σ q 5 (by decide) nu (nI 5) ma) tw_220 tw_221 tw_10 tw_222 rfl ⟨by decide +kernel, rfl, hl.1, (Nat.le_of_ble_eq_true rfl), ⟨(Nat.le_of_ble_eq_true rfl), (Nat.le_of_ble_eq_true rfl)⟩, ⟨(Nat.le_of_ble_eq_true rfl), (Nat.le_of_ble_eq_true rfl)⟩, rfl, rfl⟩ rfl dX10_knead_115) (fun u H locs hp hw => ?_)
    have hp := hp.symm
    subst hp
    exact ret_r (r := some q) q cx hw rfl dX10_knead_118 (Nat.le_of_ble_eq_true rfl) (Nat.le_of_ble_eq_true rfl)
  · refine lv_iload_n cx.x cx.b dX10_knead_0 rfl (lv_at hl 1 rfl) ?_
    refine lv_tableIn (tgt := 119) cx.x cx.b dX10_knead_1 (by decide) (by decide) rfl (by decide) ?_
    refine nw_o (ci := 10) (fs := dBlank) cx hw (cls_d (k := 6) (by decide)) (inD_all 6 (by decide)) tyX2 tyX2_ok tw_233 tw_234 tw_11 (by decide +kernel) (Nat.le_of_ble_eq_true rfl) (Nat.le_of_ble_eq_true rfl) dX10_knead_119 (fun q H hw => ?_)
    have hw : Wd D cls A s H [] (kwX G Q σ q (4 + 6) dBlank) := hw
    refine lv_dup cx.x cx.b dX10_knead_122 rfl ?_
    refine lv_aload_n cx.x cx.b dX10_knead_123 rfl (lv_at hl 0 rfl) ?_
    refine gt_f (v := .ref (G 1)) cx hw 0 (kwX_h (σ := σ)) rfl inX10 0 (by decide) tw_85 ⟨rfl, rfl, Or.inl rfl⟩ rfl dX10_knead_124 ?_
    refine lv_iload_n cx.x cx.b dX10_knead_127 rfl (lv_at hl 2 rfl) ?_
    refine lv_iload_n cx.x cx.b dX10_knead_128 rfl (lv_at hl 1 rfl) ?_
    refine lv_iload_n cx.x cx.b dX10_knead_129 rfl (lv_at hl 3 rfl) ?_
    refine cgo_v cx hw (rI_v (n := 4) (As := [.ref (G 1), .int nu, .int (nI 6), .int ma]) (rest := [.ref q]) cx hw (c_X3_init l D G Q σ q 6 (by decide) nu (nI 6) ma) tw_235 tw_236 tw_11 tw_237 rfl ⟨by decide +kernel, rfl, hl.1, (Nat.le_of_ble_eq_true rfl), ⟨(Nat.le_of_ble_eq_true rfl), (Nat.le_of_ble_eq_true rfl)⟩, ⟨(Nat.le_of_ble_eq_true rfl), (Nat.le_of_ble_eq_true rfl)⟩, rfl, rfl⟩ rfl dX10_knead_130) (fun u H locs hp hw => ?_)
    have hp := hp.symm
    subst hp
    exact ret_r (r := some q) q cx hw rfl dX10_knead_133 (Nat.le_of_ble_eq_true rfl) (Nat.le_of_ble_eq_true rfl)
  · refine lv_iload_n cx.x cx.b dX10_knead_0 rfl (lv_at hl 1 rfl) ?_
    refine lv_tableIn (tgt := 134) cx.x cx.b dX10_knead_1 (by decide) (by decide) rfl (by decide) ?_
    refine nw_o (ci := 11) (fs := dBlank) cx hw (cls_d (k := 7) (by decide)) (inD_all 7 (by decide)) tyX2 tyX2_ok tw_248 tw_249 tw_12 (by decide +kernel) (Nat.le_of_ble_eq_true rfl) (Nat.le_of_ble_eq_true rfl) dX10_knead_134 (fun q H hw => ?_)
    have hw : Wd D cls A s H [] (kwX G Q σ q (4 + 7) dBlank) := hw
    refine lv_dup cx.x cx.b dX10_knead_137 rfl ?_
    refine lv_aload_n cx.x cx.b dX10_knead_138 rfl (lv_at hl 0 rfl) ?_
    refine gt_f (v := .ref (G 1)) cx hw 0 (kwX_h (σ := σ)) rfl inX10 0 (by decide) tw_85 ⟨rfl, rfl, Or.inl rfl⟩ rfl dX10_knead_139 ?_
    refine lv_iload_n cx.x cx.b dX10_knead_142 rfl (lv_at hl 2 rfl) ?_
    refine lv_iload_n cx.x cx.b dX10_knead_143 rfl (lv_at hl 1 rfl) ?_
    refine lv_iload_n cx.x cx.b dX10_knead_144 rfl (lv_at hl 3 rfl) ?_
    refine cgo_v cx hw (rI_v (n := 4) (As := [.ref (G 1), .int nu, .int (nI 7), .int ma]) (rest := [.ref q]) cx hw (c_X5_init l D G Q σ q 7 (by decide) nu (nI 7) ma) tw_250 tw_251 tw_12 tw_252 rfl ⟨by decide +kernel, rfl, hl.1, (Nat.le_of_ble_eq_true rfl), ⟨(Nat.le_of_ble_eq_true rfl), (Nat.le_of_ble_eq_true rfl)⟩, ⟨(Nat.le_of_ble_eq_true rfl), (Nat.le_of_ble_eq_true rfl)⟩, rfl, rfl⟩ rfl dX10_knead_145) (fun u H locs hp hw => ?_)
    have hp := hp.symm
    subst hp
    exact ret_r (r := some q) q cx hw rfl dX10_knead_148 (Nat.le_of_ble_eq_true rfl) (Nat.le_of_ble_eq_true rfl)
